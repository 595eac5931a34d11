/** Promise 11: carry; what each message does stands in the tests of the terms. */
public final class Promise11Carry {
  public static void main(String[] args) {
    for (int wrong : new int[] {-1, 2, 3, 256, Integer.MIN_VALUE, Integer.MAX_VALUE}) {
      Script.run("'BAD', empty rows", Scenes.fresh(), "refused carry(" + wrong + ") = -1");
      Script.run("'BAD', rows that are not empty", two(), "refused carry(" + wrong + ") = -1");
    }
    Script.run("'NONE'", Scenes.fresh(), "refused carry(0) = -3", "refused carry(1) = -3");
    Script.run("'NONE', of the empty one alone: UP", Scenes.askedUpdate(), "refused carry(0) = -3", "carry(1) = 18",
        "refused carry(1) = -3");
    Script.run("'NONE', of the empty one alone: DOWN", Scenes.updating(), "refused carry(1) = -3", "carry(0) = 8",
        "refused carry(0) = -3");
    Script.run("'The first message'", Scenes.fresh(), "forge up 05 01", "forge up 05 24", "forge up 05 08",
        "carry(0) = 1", "rows = 2 0", "carry(0) = 36", "rows = 1 1", "carry(0) = 1008", "rows = 0 1", "left = 1",
        "carry(0) = -3");
    Script.run("'(0 UP, 1 DOWN)': each to its side", Scenes.lost(), "forge up 05 11", "carry(0) = 1017",
        "mobile = 1 0 0 0", "forge down 05 01", "carry(1) = 1001", "left = 2", "forge down 05 11", "carry(1) = 17",
        "left = 2");
    types();
    Script.run("around the row", Scenes.fresh(), aroundTheRow());
    Script.run("a full row is carried to its end", Scenes.filled(Scenes.fresh(), 0, 8), "carry(0) = 1000",
        "carry(0) = 1000", "carry(0) = 1000", "carry(0) = 1000", "carry(0) = 1000", "carry(0) = 1000",
        "carry(0) = 1000", "rows = 1 0", "carry(0) = 1000", "rows = 0 0", "carry(0) = -3", "left = 8");
    Script.end();
  }

  private static void types() {
    Script.run("'its type (0 .. 255)'", Scenes.lost(), "forge up 05 00", "carry(0) = 1000", "forge up 05 ff",
        "carry(0) = 1255", "forge down 03 00", "carry(1) = 1000", "forge down 03 ff", "carry(1) = 1255", "left = 4");
    Script.run("'1000 more when it was LEFT'", Scenes.lost(), "forge down 05 11", "carry(1) = 17",
        "forge down 05 11 00", "carry(1) = 1017", "power(false) = 1", "forge down 05 11", "carry(1) = 1017",
        "left = 2");
  }

  private static MobileCall two() {
    MobileCall x = Scenes.askedUpdate();
    x.forge(0, 0x0501, 2);
    return x;
  }

  private static String[] aroundTheRow() {
    String[] lines = new String[3 + 2 * 20];
    lines[0] = "forge up 05 80";
    lines[1] = "forge up 05 81";
    lines[2] = "forge up 05 82";
    for (int k = 0; k < 20; k++) {
      lines[3 + 2 * k] = "forge up 05 " + Integer.toHexString(0x83 + k);
      lines[4 + 2 * k] = "carry(0) = " + (1000 + 0x80 + k);
    }
    return lines;
  }
}
