/** Promise 4: dial. */
public final class Promise04Dial {
  private static final String[] NOT_SO = {"off", "lost", "updating", "asking",
      "call 1", "call 2", "call 3", "call 4", "call 5", "call 6"};

  public static void main(String[] args) {
    Script.run("'REGISTERED'", Scenes.registered(), "dial(4711, 4) = 1", "mobile = 4 0 15 770", "rows = 1 0",
        "up 0 = 05 24", "refused dial(4711, 4) = -2");
    number("dial(4711, 4)", "04 04 07 01 01");
    oneDigit();
    eightDigits();
    lowestDigits();
    wrong("dial(1, 0)");
    wrong("dial(1, -1)");
    wrong("dial(1, 9)");
    wrong("dial(1, 264)");
    wrong("dial(1, 2147483647)");
    wrong("dial(1, -2147483648)");
    wrong("dial(-1, 1)");
    wrong("dial(-1, 8)");
    wrong("dial(-2147483648, 8)");
    wrong("dial(-1, 0)");
    for (String situation : NOT_SO) {
      Script.run("'NOT_SO' when " + situation, Scenes.ofMobile(situation), "refused dial(0, 1) = -2",
          "refused dial(99999999, 8) = -2", "refused dial(1, 0) = -1", "refused dial(1, 9) = -1",
          "refused dial(-1, 1) = -1");
    }
    Script.run("what is refused keeps no number", Scenes.asking(), "dial(5, 1) = -2", "dial(5, 9) = -1",
        "dial(-5, 1) = -1", "carry(0) = 36", "carry(1) = 18", "carry(0) = 20", "carry(1) = 33",
        "up 0 = 03 05 5e 04 04 07 01 01");
    Script.run("a later number takes the place of a longer one", Scenes.asking(), "tick(15) = 1", "lose(0) = 36",
        "dial(98, 2) = 1", "carry(0) = 36", "carry(1) = 18", "carry(0) = 20", "carry(1) = 33",
        "up 0 = 03 05 5e 02 09 08");
    Script.end();
  }

  private static void oneDigit() {
    for (int digit = 0; digit <= 9; digit++) {
      number("dial(" + digit + ", 1)", "01 0" + digit);
    }
  }

  private static void eightDigits() {
    number("dial(12345678, 8)", "08 01 02 03 04 05 06 07 08");
    number("dial(99999999, 8)", "08 09 09 09 09 09 09 09 09");
    number("dial(0, 8)", "08 00 00 00 00 00 00 00 00");
    number("dial(7, 8)", "08 00 00 00 00 00 00 00 07");
    number("dial(1234567, 7)", "07 01 02 03 04 05 06 07");
  }

  private static void lowestDigits() {
    number("dial(10, 1)", "01 00");
    number("dial(90, 3)", "03 00 09 00");
    number("dial(123456789, 3)", "03 07 08 09");
    number("dial(100000000, 8)", "08 00 00 00 00 00 00 00 00");
    number("dial(2147483647, 1)", "01 07");
    number("dial(2147483647, 8)", "08 04 07 04 08 03 06 04 07");
  }

  private static void number(String dial, String element) {
    Script.run("'a number of 1 .. 8 digits', " + dial, Scenes.registered(), dial + " = 1", "mobile = 4 0 15 770",
        "carry(0) = 36", "carry(1) = 18", "carry(0) = 20", "carry(1) = 33", "mobile = 5 1 30 770",
        "up 0 = 03 05 5e " + element, "carry(0) = 5");
  }

  private static void wrong(String dial) {
    Script.run("'no such number of digits, or a number below 0'", Scenes.registered(), "refused " + dial + " = -1");
  }
}
