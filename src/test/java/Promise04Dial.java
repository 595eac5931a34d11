/** Promise 4: dial. */
public final class Promise04Dial {
  public static void main(String[] args) {
    Script.run("ordinary", Scenes.registered(), "dial(4711, 4) = 1", "mobile = 4 0 15 770", "rows = 1 0",
        "up 0 = 05 24", "dial(4711, 4) = -2");
    number("dial(4711, 4)", "03 05 5e 04 04 07 01 01");
    number("dial(0, 1)", "03 05 5e 01 00");
    number("dial(90, 3)", "03 05 5e 03 00 09 00");
    number("dial(123456789, 3)", "03 05 5e 03 07 08 09");
    number("dial(12345678, 8)", "03 05 5e 08 01 02 03 04 05 06 07 08");
    number("dial(2147483647, 8)", "03 05 5e 08 04 07 04 08 03 06 04 07");
    Script.run("wrong numbers", Scenes.registered(), "dial(1, 0) = -1", "dial(1, -1) = -1", "dial(1, 9) = -1",
        "dial(-1, 1) = -1", "dial(-2147483648, 8) = -1", "dial(1, 2147483647) = -1", "mobile = 3 0 0 770",
        "rows = 0 0");
    for (String situation : new String[] {"off", "lost", "updating", "asking", "call 1", "call 4", "call 6"}) {
      Script.run("when " + situation, Scenes.ofMobile(situation), "dial(1, 9) = -1", "dial(-1, 1) = -1",
          "dial(1, 1) = -2", "rows = 0 0");
    }
    Script.run("what is refused keeps no number", Scenes.asking(), "dial(5, 1) = -2", "carry(0) = 36",
        "carry(1) = 18", "carry(0) = 20", "carry(1) = 33", "up 0 = 03 05 5e 04 04 07 01 01");
    Script.end();
  }

  private static void number(String dial, String bytes) {
    Script.run(dial, Scenes.registered(), dial + " = 1", "carry(0) = 36", "carry(1) = 18", "carry(0) = 20",
        "carry(1) = 33", "mobile = 5 1 30 770", "up 0 = " + bytes);
  }
}
