/** Promise 10: radio. */
public final class Promise10Radio {
  public static void main(String[] args) {
    mobile("off", "0 0 0 0");
    mobile("lost", "1 0 0 0");
    mobile("updating", "1 0 0 0");
    mobile("registered", "3 0 0 770");
    mobile("asking", "3 0 0 770");
    for (int call = 1; call <= 6; call++) {
      mobile("call " + call, "3 0 0 770");
    }
    network("idle", -1);
    network("idle, area", 770);
    network("asked update", -1);
    network("asked service", 770);
    for (int call = 0; call <= 6; call++) {
      network("call " + call, 770);
    }
    rows();
    withoutRadio();
    Script.run("'no calls': no number", Scenes.active(), "digit(0) = 4", "radio(false) = 1", "digit(0) = -3",
        "refused hang() = -2", "refused clear(1) = -2", "refused alert() = -2", "refused answer() = -2");
    Script.run("what was LEFT and the causes stay", Scenes.mobileReleasing(), "forge down 09 09", "carry(1) = 1009",
        "radio(false) = 1", "left = 1", "causes = 7 -1", "radio(true) = 1", "left = 1", "causes = 7 -1");
    Script.run("the challenges go on", Scenes.askedUpdate(), "radio(false) = 1", "radio(true) = 1", "update(1) = 1",
        "carry(0) = 8", "down 0 = 05 12 21 04 96 7e b0 e7");
    Script.end();
  }

  private static void rows() {
    Script.run("'both rows are empty'", Scenes.askedUpdate(), "forge(0, 1281, 2) = 1", "rows = 1 1",
        "radio(false) = 1", "rows = 0 0", "left = 0", "carry(0) = -3", "carry(1) = -3", "lose(0) = -3",
        "spoil(1, 0, 1) = -3", "byteOf(1, 0, 0) = -3", "radio(true) = 1", "rows = 0 0", "carry(0) = -3",
        "carry(1) = -3");
    Script.run("'both rows are empty' when they were full", Scenes.filled(Scenes.filled(Scenes.lost(), 0, 8), 1, 8),
        "rows = 8 8", "radio(false) = 1", "rows = 0 0", "radio(true) = 1", "forge(0, 0x0901, 2) = 1",
        "forge(1, 0x0902, 2) = 1", "up 0 = 09 01", "down 0 = 09 02", "up 1 = none", "carry(0) = 1001",
        "carry(1) = 1002", "rows = 0 0");
  }

  private static void withoutRadio() {
    Script.run("'without radio, is gone': UPDATE", Scenes.lost(), "radio(false) = 1", "update(5) = 1", "rows = 0 0",
        "mobile = 2 0 20 0", "tick(20) = 1", "mobile = 1 0 0 0");
    Script.run("'without radio, is gone': SERVICE", Scenes.registered(), "radio(false) = 1", "dial(1, 1) = 1",
        "rows = 0 0", "mobile = 4 0 15 770", "tick(15) = 1", "mobile = 3 0 0 770", "radio(true) = 1", "rows = 0 0",
        "dial(1, 1) = 1", "rows = 1 0");
    Script.run("'without radio, is gone': DETACH", Scenes.registered(), "radio(false) = 1", "power(false) = 1",
        "rows = 0 0", "mobile = 0 0 0 770");
    Script.run("'Or on': all else stays", Scenes.registered(), "radio(false) = 1", "update(5) = 1", "tick(4) = 0",
        "radio(true) = 1", "mobile = 2 0 16 770", "rows = 0 0", "network = 0 0 0 770");
  }

  private static void mobile(String situation, String then) {
    Script.run("mobile " + situation, Scenes.ofMobile(situation), "refused radio(true) = -2", "radio(false) = 1",
        "told(11) = 0", "mobile = " + then, "refused radio(false) = -2", "tick(100) = 0", "mobile = " + then,
        "radio(true) = 1", "told(11) = 1", "mobile = " + then, "refused radio(true) = -2");
  }

  private static void network(String situation, int area) {
    Script.run("network " + situation, Scenes.ofNetwork(situation), "radio(false) = 1", "network = 0 0 0 " + area,
        "tick(100) = 0", "radio(true) = 1", "network = 0 0 0 " + area);
  }
}
