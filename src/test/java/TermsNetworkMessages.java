/** Terms: what the network does when a message comes. */
public final class TermsNetworkMessages {
  private static final String[] SITUATIONS = {"idle", "idle, area", "asked update", "asked service",
      "call 0", "call 1", "call 2", "call 3", "call 4", "call 5", "call 6"};
  // The first and second challenge of seed 1 are 41c67ea6 and 967eb0e7; the answers are due with key 5.
  private static final String FIRST = "05 14 22 04 " + Answers.hex(0x41c67ea6, 5);
  private static final String SECOND = "05 14 22 04 " + Answers.hex(0x967eb0e7, 5);

  public static void main(String[] args) {
    new Outcomes(0, SITUATIONS, Scenes::ofNetwork,
        "idle          | 05 08 13 02 01 00 | 1 0 12 -1  | - | 05 12 21 04 41 c6 7e a6",
        "idle, area    | 05 08 13 02 01 00 | 1 0 12 770 | - | 05 12 21 04 96 7e b0 e7",
        "idle          | 05 24 | 0 0 0 -1   | - | 05 22 08 01 04",
        "idle, area    | 05 24 | 2 0 12 770 | - | 05 12 21 04 96 7e b0 e7",
        "asked update  | " + FIRST + " | 0 0 0 770 | - | 05 02 13 02 03 02",
        "asked update  | " + SECOND + " | 0 0 0 -1 | - | 05 11",
        "asked service | " + SECOND + " | 3 0 0 770 | - | 05 21",
        "asked service | " + FIRST + " | 0 0 0 -1 | - | 05 11",
        "idle          | 05 01 | 0 0 0 -1 | - | none",
        "idle, area    | 05 01 | 0 0 0 -1 | - | none",
        "asked update  | 05 01 | 0 0 0 -1 | - | none",
        "asked service | 05 01 | 0 0 0 -1 | - | none",
        "call 0 | 05 01 | 0 0 0 -1 | - | none",
        "call 1 | 05 01 | 0 0 0 -1 | - | none",
        "call 2 | 05 01 | 0 0 0 -1 | - | none",
        "call 3 | 05 01 | 0 0 0 -1 | - | none",
        "call 4 | 05 01 | 0 0 0 -1 | - | none",
        "call 5 | 05 01 | 0 0 0 -1 | - | none",
        "call 6 | 05 01 | 0 0 0 -1 | - | none",
        "call 0 | 03 05 5e 01 04 | 3 1 0 770 | - | 03 02",
        "call 3 | 03 0f | 3 4 0 770 | - | none",
        "call 1 | 03 25 08 01 63 | 3 6 30 770 | 99 | 03 2d",
        "call 2 | 03 25 08 01 63 | 3 6 30 770 | 99 | 03 2d",
        "call 3 | 03 25 08 01 63 | 3 6 30 770 | 99 | 03 2d",
        "call 4 | 03 25 08 01 63 | 3 6 30 770 | 99 | 03 2d",
        "call 5 | 03 25 08 01 63 | 3 6 30 770 | 99 | 03 2d",
        "call 0 | 03 2d | 0 0 0 770 | - | 03 2a",
        "call 1 | 03 2d | 0 0 0 770 | - | 03 2a",
        "call 2 | 03 2d | 0 0 0 770 | - | 03 2a",
        "call 3 | 03 2d | 0 0 0 770 | - | 03 2a",
        "call 4 | 03 2d | 0 0 0 770 | - | 03 2a",
        "call 5 | 03 2d | 0 0 0 770 | - | 03 2a",
        "call 6 | 03 2d | 0 0 0 770 | - | 03 2a",
        "call 0 | 03 2a | 0 0 0 770 | - | none",
        "call 1 | 03 2a | 0 0 0 770 | - | none",
        "call 2 | 03 2a | 0 0 0 770 | - | none",
        "call 3 | 03 2a | 0 0 0 770 | - | none",
        "call 4 | 03 2a | 0 0 0 770 | - | none",
        "call 5 | 03 2a | 0 0 0 770 | - | none",
        "call 6 | 03 2a | 0 0 0 770 | - | none")
        .check("05 02 13 02 01 00", "05 04 08 01 63", "05 22 08 01 63", "05 12 21 04 00 00 00 04",
            "03 08 13 02 01 00", "05 05 5e 01 04", "05 25 08 01 63", "03 24");
    timersStay();
    Script.end();
  }

  private static void timersStay() {
    Script.run("a LEFT message leaves the timer as it is", Scenes.askedUpdate(), "tick(5) = 0", "forge up 05 24",
        "carry(0) = 1036", "network = 1 0 7 -1");
    Script.run("CONNECTED stops the timer", Scenes.answered(), "tick(9) = 0", "network = 3 3 1 770", "carry(1) = 7",
        "carry(0) = 15", "network = 3 4 0 770", "tick(1) = 0");
    Script.run("the right answer stops the timer", Scenes.askedService(), "tick(11) = 0", "carry(1) = 18",
        "carry(0) = 20", "network = 3 0 0 770", "tick(1) = 0", "network = 3 0 0 770");
  }
}
