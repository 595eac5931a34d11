/** Promise 16: told. */
public final class Promise16Told {
  public static void main(String[] args) {
    for (int wrong : new int[] {-1, 14, 15, 256, Integer.MIN_VALUE, Integer.MAX_VALUE}) {
      Script.run("'BAD'", Scenes.active(), "refused told(" + wrong + ") = -1");
    }
    Script.run("each number", Scenes.setUp(), "told(0) = 5", "told(1) = 1", "told(2) = 30", "told(3) = 770",
        "told(4) = 3", "told(5) = 0", "told(6) = 0", "told(7) = 770", "told(8) = 1", "told(9) = 0", "told(10) = 0",
        "told(11) = 1", "told(12) = -1", "told(13) = -1");
    Script.run("each side for itself", Scenes.networkReleasing(), "told(0) = 5", "told(1) = 5", "told(2) = 30",
        "told(4) = 3", "told(5) = 6", "told(6) = 30", "told(8) = 0", "told(9) = 1", "told(12) = -1",
        "told(13) = 16");
    Script.run("'its timer (0 for none)'", Scenes.active(), "told(2) = 0", "told(6) = 0");
    Script.run("'its timer', at 1", Scenes.answered(), "tick(9) = 0", "told(2) = 0", "told(6) = 1");
    Script.run("'the area known (-1 for none)', none", Scenes.lost(), "told(7) = -1");
    Script.run("'the area known (-1 for none)', 0", Scenes.lost(), "update(0) = 1", "carry(0) = 8", "told(7) = -1",
        "carry(1) = 18", "carry(0) = 20", "told(7) = 0", "dial(1, 1) = -2", "carry(1) = 2", "told(3) = 0",
        "dial(1, 1) = 1", "carry(0) = 36", "carry(1) = 18", "told(4) = 2");
    Script.run("'how many messages are in a row', full", Scenes.filled(Scenes.filled(Scenes.fresh(), 0, 8), 1, 7),
        "told(8) = 8", "told(9) = 7");
    Script.run("'whether there is radio'", Scenes.fresh(), "told(11) = 1", "radio(false) = 1", "told(11) = 0",
        "radio(true) = 1", "told(11) = 1");
    causes();
    left();
    Script.end();
  }

  private static void causes() {
    for (int cause : new int[] {0, 1, 127, 128, 254, 255}) {
      String element = String.format(" 08 01 %02x", cause);
      cause("'REFUSED'", Scenes.ofMobile("updating"), "forge down 05 04" + element, "carry(1) = 4", cause + " -1");
      cause("'NOT SERVED'", Scenes.ofMobile("asking"), "forge down 05 22" + element, "carry(1) = 34", cause + " -1");
      cause("'END'", Scenes.ofMobile("call 4"), "forge down 03 25" + element, "carry(1) = 37", cause + " -1");
      cause("'to the network (END)'", Scenes.ofNetwork("call 4"), "forge up 03 25" + element, "carry(0) = 37",
          "-1 " + cause);
    }
    Script.run("'that came last'", Scenes.ofMobile("updating"), "forge down 05 04 08 01 00", "carry(1) = 4",
        "causes = 0 -1", "update(1) = 1", "carry(0) = 8", "carry(1) = 18", "carry(0) = 20", "carry(1) = 2",
        "causes = 0 -1", "dial(1, 1) = 1", "forge down 05 22 08 01 ff", "carry(1) = 34", "causes = 255 -1");
    Script.run("it stays when the mobile is switched off and on", Scenes.mobileReleasing(), "causes = 7 -1",
        "power(false) = 1", "causes = 7 -1", "power(true) = 1", "causes = 7 -1");
    Script.run("it stays without radio", Scenes.networkReleasing(), "radio(false) = 1", "causes = -1 16",
        "radio(true) = 1", "causes = -1 16");
    Script.run("what is sent brings the sender none", Scenes.active(), "hang() = 1", "clear(9) = 1", "causes = -1 -1",
        "lose(0) = 37", "lose(1) = 37", "causes = -1 -1");
    Script.run("a LEFT message brings none", Scenes.mobileReleasing(), "forge down 03 25 08 01 09",
        "carry(1) = 1037", "causes = 7 -1", "left = 1", "forge down 05 04 08 01 09", "carry(1) = 1004",
        "forge down 05 22 08 01 09", "carry(1) = 1034", "causes = 7 -1", "left = 3");
    Script.run("a LEFT message brings none to the network", Scenes.networkReleasing(), "forge up 03 25 08 01 09",
        "carry(0) = 1037", "causes = -1 16", "left = 1");
  }

  private static void cause(String name, MobileCall x, String forge, String carry, String causes) {
    Script.run(name, x, "causes = -1 -1", forge, "causes = -1 -1", carry, "causes = " + causes);
  }

  private static void left() {
    Script.run("'how many were LEFT', of both rows", Scenes.lost(), "forge up 09 01", "forge down 09 01", "left = 0",
        "carry(0) = 1001", "left = 1", "carry(1) = 1001", "left = 2");
    Script.run("'how many were LEFT', not what was lost", Scenes.lost(), "forge up 09 01", "lose(0) = 1", "left = 0",
        "forge up 09 01", "radio(false) = 1", "left = 0");
    MobileCall x = Scenes.fresh();
    for (int k = 1; k <= 250; k++) {
      x.forge(0, 0x0909, 2);
      Script.due("'how many were LEFT', message " + k, x.carry(0), 1009);
    }
    Script.run("'how many were LEFT', 250 of them", x, "left = 250", "rows = 0 0");
  }
}
