import java.util.Arrays;

/**
 * Terms: a row takes at most 8 messages; each message that is sent comes last, goes in as the eighth, and is gone when
 * the row is full, while the rest happens all the same.
 */
public final class TermsRows {
  private static final String FIRST = "05 14 22 04 " + Answers.hex(0x41c67ea6, 5);
  private static final String SECOND = "05 14 22 04 " + Answers.hex(0x967eb0e7, 5);

  // situation | what comes before | what sends | the message | state, call, timer and area then
  private static final String[] MOBILE = {
      "lost       |                                    | update(5) = 1     | 05 08 13 02 00 05       | 2 0 20 0",
      "registered |                                    | update(5) = 1     | 05 08 13 02 00 05       | 2 0 20 770",
      "registered |                                    | dial(1, 1) = 1    | 05 24                   | 4 0 15 770",
      "registered |                                    | power(false) = 1  | 05 01                   | 0 0 0 770",
      "updating   | forge down 05 12 21 04 00 00 00 04 | carry(1) = 18     | 05 14 22 04 20 00 32 60 | 2 0 20 0",
      "asking     | forge down 05 12 21 04 00 00 00 04 | carry(1) = 18     | 05 14 22 04 20 00 32 60 | 4 0 15 770",
      "asking     | forge down 05 21                   | carry(1) = 33     | 03 05 5e 04 04 07 01 01 | 5 1 30 770",
      "call 3     | forge down 03 07                   | carry(1) = 7      | 03 0f                   | 5 4 0 770",
      "call 4     |                                    | hang() = 1        | 03 25 08 01 10          | 5 5 30 770",
      "call 4     | forge down 03 25 08 01 09          | carry(1) = 37     | 03 2d                   | 5 6 30 770",
      "call 4     | forge down 03 2d                   | carry(1) = 45     | 03 2a                   | 3 0 0 770",
      "call 1     | tick(29) = 0                       | tick(1) = 1       | 03 2a                   | 3 0 0 770",
      "call 5     | tick(29) = 0                       | tick(1) = 1       | 03 2d                   | 5 6 30 770",
      "call 6     | tick(29) = 0                       | tick(1) = 2       | 03 2d                   | 5 6 30 770",
  };
  private static final String[] NETWORK = {
      "idle          | forge up 05 08 13 02 00 01 | carry(0) = 8  | 05 12 21 04 41 c6 7e a6 | 1 0 12 -1",
      "idle, area    | forge up 05 24             | carry(0) = 36 | 05 12 21 04 96 7e b0 e7 | 2 0 12 770",
      "idle          | forge up 05 24             | carry(0) = 36 | 05 22 08 01 04          | 0 0 0 -1",
      "asked update  | forge up " + FIRST + "     | carry(0) = 20 | 05 02 13 02 03 02       | 0 0 0 770",
      "asked update  | forge up " + SECOND + "    | carry(0) = 20 | 05 11                   | 0 0 0 -1",
      "asked update  | accept(2) = 1; forge up " + FIRST + "  | carry(0) = 20 | 05 04 08 01 0b | 0 0 0 -1",
      "asked service | forge up " + SECOND + "    | carry(0) = 20 | 05 21                   | 3 0 0 770",
      "asked service | forge up " + FIRST + "     | carry(0) = 20 | 05 11                   | 0 0 0 -1",
      "asked service | accept(1) = 1; forge up " + SECOND + " | carry(0) = 20 | 05 22 08 01 20 | 0 0 0 770",
      "call 0        | forge up 03 05 5e 01 04    | carry(0) = 5  | 03 02                   | 3 1 0 770",
      "call 1        |                            | alert() = 1   | 03 01                   | 3 2 0 770",
      "call 2        |                            | answer() = 1  | 03 07                   | 3 3 10 770",
      "call 4        |                            | clear(9) = 1  | 03 25 08 01 09          | 3 5 30 770",
      "call 4        | forge up 03 25 08 01 09    | carry(0) = 37 | 03 2d                   | 3 6 30 770",
      "call 4        | forge up 03 2d             | carry(0) = 45 | 03 2a                   | 0 0 0 770",
      "call 0        | forge up 03 2d             | carry(0) = 45 | 03 2a                   | 0 0 0 770",
      "call 3        | tick(9) = 0                | tick(1) = 1   | 03 25 08 01 66          | 3 5 30 770",
      "call 5        | tick(29) = 0               | tick(1) = 1   | 03 2d                   | 3 6 30 770",
      "call 6        | tick(29) = 0               | tick(1) = 2   | 03 2d                   | 3 6 30 770",
  };

  public static void main(String[] args) {
    for (int many = 0; many <= 8; many++) {
      for (String row : MOBILE) {
        one(0, row, many);
      }
      for (String row : NETWORK) {
        one(1, row, many);
      }
    }
    Script.run("a place that is free again", Scenes.filled(Scenes.lost(), 0, 8), "lose(0) = 0", "update(5) = 1",
        "rows = 8 0", "up 7 = 05 08 13 02 00 05", "power(false) = 1", "rows = 8 0", "up 7 = 05 08 13 02 00 05");
    Script.run("each row has its own 8", Scenes.filled(Scenes.filled(Scenes.lost(), 0, 8), 1, 7), "rows = 8 7",
        "forge(1, 0x0501, 2) = 8", "forge(0, 0x0501, 2) = -2", "forge(1, 0x0501, 2) = -2", "rows = 8 8",
        "lose(0) = 0", "rows = 7 8");
    Script.end();
  }

  /** What is sent to a row of so many messages. */
  private static void one(int way, String row, int many) {
    String[] cells = Arrays.stream(row.split("\\|")).map(String::trim).toArray(String[]::new);
    String rowName = way == 0 ? "up " : "down ";
    MobileCall x = way == 0 ? Scenes.ofMobile(cells[0]) : Scenes.ofNetwork(cells[0]);
    String name = cells[0] + ", " + cells[2] + ", a row of " + many;
    Scenes.filled(x, way, many);
    for (String line : cells[1].split("; *")) {
      if (!line.isEmpty()) {
        Script.run(name, x, line);
      }
    }
    String last = many == 8 ? "05 00" : cells[3];
    Script.run(name, x, "told(" + (8 + way) + ") = " + many, cells[2],
        (way == 0 ? "mobile = " : "network = ") + cells[4], "told(" + (8 + way) + ") = " + Math.min(8, many + 1),
        rowName + Math.min(7, many) + " = " + last, rowName + Math.min(8, many + 1) + " = none");
  }
}
