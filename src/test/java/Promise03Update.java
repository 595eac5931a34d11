/** Promise 3: update. */
public final class Promise03Update {
  public static void main(String[] args) {
    Script.run("when lost", Scenes.lost(), "update(770) = 1", "mobile = 2 0 20 0", "rows = 1 0",
        "up 0 = 05 08 13 02 03 02", "network = 0 0 0 -1");
    Script.run("when registered", Scenes.registered(), "update(771) = 1", "mobile = 2 0 20 770",
        "up 0 = 05 08 13 02 03 03", "network = 0 0 0 770");
    Script.run("the lowest area", Scenes.lost(), "update(-1) = -1", "update(0) = 1", "up 0 = 05 08 13 02 00 00");
    Script.run("the highest area", Scenes.lost(), "update(65536) = -1", "update(65535) = 1",
        "up 0 = 05 08 13 02 ff ff");
    Script.run("the outermost numbers", Scenes.lost(), "update(2147483647) = -1", "update(-2147483648) = -1",
        "mobile = 1 0 0 0", "rows = 0 0");
    for (String situation : new String[] {"off", "updating", "asking", "call 1", "call 4", "call 6"}) {
      Script.run("when " + situation, Scenes.ofMobile(situation), "update(65536) = -1", "update(-1) = -1",
          "update(5) = -2", "rows = 0 0");
    }
    Script.run("an area that is known is replaced", Scenes.registered(), "update(65535) = 1", "carry(0) = 8",
        "network = 1 0 12 770", "carry(1) = 18", "mobile = 2 0 20 770", "carry(0) = 20", "network = 0 0 0 65535",
        "down 0 = 05 02 13 02 ff ff", "carry(1) = 2", "mobile = 3 0 0 65535");
    Script.end();
  }
}
