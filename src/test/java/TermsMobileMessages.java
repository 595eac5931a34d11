/** Terms: what the mobile does when a message comes. */
public final class TermsMobileMessages {
  private static final String[] SITUATIONS = {"off", "lost", "updating", "registered", "asking",
      "call 1", "call 2", "call 3", "call 4", "call 5", "call 6"};

  public static void main(String[] args) {
    new Outcomes(1, SITUATIONS, Scenes::ofMobile,
        "updating | 05 02 13 02 01 00             | 3 0 0 256  | - | none",
        "updating | 05 04 08 01 63                | 1 0 0 0    | 99 | none",
        "updating | 05 12 21 04 00 00 00 04       | 2 0 20 0   | - | 05 14 22 04 20 00 32 60",
        "asking   | 05 12 21 04 00 00 00 04       | 4 0 15 770 | - | 05 14 22 04 20 00 32 60",
        "asking   | 05 12 21 04 80 00 00 05       | 4 0 15 770 | - | 05 14 22 04 00 00 00 10",
        "updating | 05 12 21 04 80 00 00 05       | 2 0 20 0   | - | 05 14 22 04 00 00 00 10",
        "lost     | 05 11 | 1 0 0 0   | - | none",
        "updating | 05 11 | 1 0 0 0   | - | none",
        "registered | 05 11 | 1 0 0 770 | - | none",
        "asking   | 05 11 | 1 0 0 770 | - | none",
        "call 1   | 05 11 | 1 0 0 770 | - | none",
        "call 2   | 05 11 | 1 0 0 770 | - | none",
        "call 3   | 05 11 | 1 0 0 770 | - | none",
        "call 4   | 05 11 | 1 0 0 770 | - | none",
        "call 5   | 05 11 | 1 0 0 770 | - | none",
        "call 6   | 05 11 | 1 0 0 770 | - | none",
        "asking   | 05 21 | 5 1 30 770 | - | 03 05 5e 04 04 07 01 01",
        "asking   | 05 22 08 01 63 | 3 0 0 770 | 99 | none",
        "call 1   | 03 02 | 5 2 0 770 | - | none",
        "call 1   | 03 01 | 5 3 0 770 | - | none",
        "call 2   | 03 01 | 5 3 0 770 | - | none",
        "call 1   | 03 07 | 5 4 0 770 | - | 03 0f",
        "call 2   | 03 07 | 5 4 0 770 | - | 03 0f",
        "call 3   | 03 07 | 5 4 0 770 | - | 03 0f",
        "call 1   | 03 25 08 01 63 | 5 6 30 770 | 99 | 03 2d",
        "call 2   | 03 25 08 01 63 | 5 6 30 770 | 99 | 03 2d",
        "call 3   | 03 25 08 01 63 | 5 6 30 770 | 99 | 03 2d",
        "call 4   | 03 25 08 01 63 | 5 6 30 770 | 99 | 03 2d",
        "call 5   | 03 25 08 01 63 | 5 6 30 770 | 99 | 03 2d",
        "call 1   | 03 2d | 3 0 0 770 | - | 03 2a",
        "call 2   | 03 2d | 3 0 0 770 | - | 03 2a",
        "call 3   | 03 2d | 3 0 0 770 | - | 03 2a",
        "call 4   | 03 2d | 3 0 0 770 | - | 03 2a",
        "call 5   | 03 2d | 3 0 0 770 | - | 03 2a",
        "call 6   | 03 2d | 3 0 0 770 | - | 03 2a",
        "call 1   | 03 2a | 3 0 0 770 | - | none",
        "call 2   | 03 2a | 3 0 0 770 | - | none",
        "call 3   | 03 2a | 3 0 0 770 | - | none",
        "call 4   | 03 2a | 3 0 0 770 | - | none",
        "call 5   | 03 2a | 3 0 0 770 | - | none",
        "call 6   | 03 2a | 3 0 0 770 | - | none")
        .check("05 08 13 02 01 00", "05 14 22 04 20 00 32 60", "03 05 5e 01 04", "03 04 08 01 63",
            "03 12 21 04 00 00 00 04", "05 25 08 01 63", "05 2d", "03 11");
    timersStay();
    Script.end();
  }

  private static void timersStay() {
    Script.run("a challenge leaves the timer as it is", Scenes.askedUpdate(), "tick(5) = 0", "carry(1) = 18",
        "mobile = 2 0 15 0");
    Script.run("a LEFT message leaves the timer as it is", Scenes.askedUpdate(), "lose(1) = 18", "tick(5) = 0",
        "forge down 05 21", "carry(1) = 1033", "mobile = 2 0 15 0");
    Script.run("END starts the timer anew", Scenes.mobileEnding(), "tick(5) = 0", "mobile = 5 5 25 770",
        "forge down 03 25 08 01 09", "carry(1) = 37", "mobile = 5 6 30 770");
  }
}
