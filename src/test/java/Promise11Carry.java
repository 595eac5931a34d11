/** Promise 11: carry; what each message does stands in the tests of the terms. */
public final class Promise11Carry {
  public static void main(String[] args) {
    Script.run("empty rows and wrong ways", Scenes.fresh(), "carry(0) = -3", "carry(1) = -3", "carry(2) = -1",
        "carry(-1) = -1", "carry(2147483647) = -1", "carry(-2147483648) = -1", "left = 0");
    Script.run("the first one comes first", Scenes.fresh(), "forge up 05 01", "forge up 05 24", "forge up 05 08",
        "carry(0) = 1", "rows = 2 0", "carry(0) = 36", "rows = 1 1", "carry(0) = 1008", "rows = 0 1", "left = 1",
        "carry(0) = -3");
    Script.run("each to its side", Scenes.lost(), "forge up 05 11", "carry(0) = 1017", "mobile = 1 0 0 0",
        "forge down 05 01", "carry(1) = 1001", "left = 2", "forge down 05 11", "carry(1) = 17", "left = 2");
    Script.run("types at the edges", Scenes.lost(), "forge up 05 00", "carry(0) = 1000", "forge down 03 ff",
        "carry(1) = 1255", "left = 2");
    Script.run("a long way round the row", Scenes.fresh(), roundTheRow());
    Script.end();
  }

  private static String[] roundTheRow() {
    String[] lines = new String[3 + 2 * 20];
    lines[0] = "forge up 05 80";
    lines[1] = "forge up 05 81";
    lines[2] = "forge up 05 82";
    for (int k = 0; k < 20; k++) {
      lines[3 + 2 * k] = "forge up 05 " + Integer.toHexString(0x83 + k);
      lines[4 + 2 * k] = "carry(0) = " + (1000 + 0x80 + k);
    }
    return lines;
  }
}
