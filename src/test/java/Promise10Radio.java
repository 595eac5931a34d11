/** Promise 10: radio. */
public final class Promise10Radio {
  public static void main(String[] args) {
    mobile("off", "0 0 0 0");
    mobile("lost", "1 0 0 0");
    mobile("updating", "1 0 0 0");
    mobile("registered", "3 0 0 770");
    mobile("asking", "3 0 0 770");
    for (int call = 1; call <= 6; call++) {
      mobile("call " + call, "3 0 0 770");
    }
    network("idle", -1);
    network("idle, area", 770);
    network("asked update", -1);
    network("asked service", 770);
    for (int call = 0; call <= 6; call++) {
      network("call " + call, 770);
    }
    Script.run("the rows", Scenes.askedUpdate(), "forge(0, 1281, 2) = 1", "rows = 1 1", "radio(false) = 1",
        "rows = 0 0", "left = 0", "carry(0) = -3", "carry(1) = -3", "radio(true) = 1", "rows = 0 0",
        "carry(0) = -3", "carry(1) = -3");
    Script.run("what is sent is gone", Scenes.registered(), "radio(false) = 1", "dial(1, 1) = 1",
        "mobile = 4 0 15 770", "rows = 0 0", "forge(1, 1281, 2) = -2", "tick(15) = 1", "mobile = 3 0 0 770",
        "radio(true) = 1", "rows = 0 0", "dial(1, 1) = 1", "rows = 1 0");
    Script.run("no number without a call", Scenes.active(), "digit(0) = 4", "radio(false) = 1", "digit(0) = -3");
    Script.end();
  }

  private static void mobile(String situation, String then) {
    Script.run("mobile " + situation, Scenes.ofMobile(situation), "radio(true) = -2", "radio(false) = 1",
        "told(11) = 0", "mobile = " + then, "radio(false) = -2", "tick(100) = 0", "mobile = " + then,
        "radio(true) = 1", "told(11) = 1", "mobile = " + then, "radio(true) = -2");
  }

  private static void network(String situation, int area) {
    Script.run("network " + situation, Scenes.ofNetwork(situation), "radio(false) = 1", "network = 0 0 0 " + area,
        "tick(100) = 0", "radio(true) = 1", "network = 0 0 0 " + area);
  }
}
