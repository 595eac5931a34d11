/** Promise 3: update. */
public final class Promise03Update {
  private static final String[] NOT_SO = {"off", "updating", "asking",
      "call 1", "call 2", "call 3", "call 4", "call 5", "call 6"};

  public static void main(String[] args) {
    Script.run("'LOST'", Scenes.lost(), "update(770) = 1", "mobile = 2 0 20 0", "rows = 1 0",
        "up 0 = 05 08 13 02 03 02", "network = 0 0 0 -1");
    Script.run("'or REGISTERED'", Scenes.registered(), "update(771) = 1", "mobile = 2 0 20 770", "rows = 1 0",
        "up 0 = 05 08 13 02 03 03", "network = 0 0 0 770");
    area(0, "00 00");
    area(1, "00 01");
    area(255, "00 ff");
    area(256, "01 00");
    area(65534, "ff fe");
    area(65535, "ff ff");
    for (int wrong : new int[] {-1, 65536, -65536, 65536 + 770, Integer.MIN_VALUE, Integer.MAX_VALUE}) {
      Script.run("'(0 .. 65535)' when lost", Scenes.lost(), "refused update(" + wrong + ") = -1");
      Script.run("'(0 .. 65535)' when registered", Scenes.registered(), "refused update(" + wrong + ") = -1");
    }
    for (String situation : NOT_SO) {
      Script.run("'NOT_SO' when " + situation, Scenes.ofMobile(situation), "refused update(0) = -2",
          "refused update(65535) = -2", "refused update(-1) = -1", "refused update(65536) = -1");
    }
    Script.run("a refused one leaves the area that was asked for", Scenes.updating(), "update(5) = -2",
        "update(65536) = -1", "carry(0) = 8", "carry(1) = 18", "carry(0) = 20", "carry(1) = 2", "mobile = 3 0 0 770");
    Script.run("'timer 20' again after 20 ticks", Scenes.updating(), "tick(20) = 1", "mobile = 1 0 0 0",
        "update(1) = 1", "mobile = 2 0 20 0", "rows = 2 0", "up 1 = 05 08 13 02 00 01");
    Script.end();
  }

  private static void area(int area, String bytes) {
    Script.run("'an area (0 .. 65535)', " + area, Scenes.registered(), "update(" + area + ") = 1",
        "up 0 = 05 08 13 02 " + bytes, "carry(0) = 8", "network = 1 0 12 770", "carry(1) = 18",
        "mobile = 2 0 20 770", "carry(0) = 20", "network = 0 0 0 " + area, "down 0 = 05 02 13 02 " + bytes,
        "carry(1) = 2", "mobile = 3 0 0 " + area);
  }
}
