/** Promise 14: forge. */
public final class Promise14Forge {
  public static void main(String[] args) {
    for (int n : new int[] {1, 0, -1, 9, 10, 24, 258, Integer.MIN_VALUE, Integer.MAX_VALUE}) {
      Script.run("'n (2 .. 8)'", Scenes.fresh(), "refused forge(0, 1281, " + n + ") = -1",
          "refused forge(1, 1281, " + n + ") = -1");
    }
    for (int way : new int[] {-1, 2, 3, 256, Integer.MIN_VALUE, Integer.MAX_VALUE}) {
      Script.run("'BAD': a way", Scenes.fresh(), "refused forge(" + way + ", 1281, 2) = -1",
          "refused forge(" + way + ", 1281, 8) = -1", "refused forge(" + way + ", 1281, 9) = -1");
    }
    bytes();
    full(0);
    full(1);
    Script.run("'NOT_SO without radio'", Scenes.fresh(), "radio(false) = 1", "refused forge(0, 1281, 2) = -2",
        "refused forge(1, 1281, 8) = -2", "refused forge(0, 1281, 9) = -1", "refused forge(0, 1281, 1) = -1",
        "refused forge(2, 1281, 2) = -1", "radio(true) = 1", "forge(0, 1281, 2) = 1");
    Script.run("'that nobody sent': all else stays", Scenes.answered(), "forge(0, 1281, 2) = 1",
        "mobile = 5 3 0 770", "network = 3 3 10 770", "left = 0", "causes = -1 -1");
    Script.run("nothing of a longer message before it stays", Scenes.askedUpdate(), "lose(1) = 18",
        "forge down 05 11", "forge down 05 11", "forge down 05 11", "forge down 05 11", "forge down 05 11",
        "forge down 05 11", "forge down 05 11", "forge down 05 11", "down 7 = 05 11", "carry(1) = 17");
    Script.end();
  }

  private static void bytes() {
    String all = "81 02 83 04 85 06 87 08";
    for (int n = 2; n <= 8; n++) {
      Script.run("'the lowest n (2 .. 8) of v, the highest first', " + n, Scenes.fresh(),
          "forge(1, -9150607437428521208, " + n + ") = 1", "down 0 = " + all.substring(3 * (8 - n)),
          "byteOf(1, 0, " + (n - 1) + ") = 8", "byteOf(1, 0, " + n + ") = -3", "rows = 0 1");
    }
    Script.run("the outermost numbers", Scenes.fresh(), "forge(0, -1, 8) = 1", "forge(0, -1, 2) = 2",
        "forge(0, 0, 8) = 3", "forge(0, -9223372036854775808, 8) = 4", "forge(0, 9223372036854775807, 8) = 5",
        "forge(0, -9223372036854775808, 7) = 6", "forge(0, -2, 7) = 7", "up 0 = ff ff ff ff ff ff ff ff",
        "up 1 = ff ff", "up 2 = 00 00 00 00 00 00 00 00", "up 3 = 80 00 00 00 00 00 00 00",
        "up 4 = 7f ff ff ff ff ff ff ff", "up 5 = 00 00 00 00 00 00 00", "up 6 = ff ff ff ff ff ff fe",
        "rows = 7 0");
  }

  private static void full(int way) {
    MobileCall x = Scenes.fresh();
    for (int k = 1; k <= 8; k++) {
      Script.run("'how many it has', " + way, x, "forge(" + way + ", " + k + ", 2) = " + k,
          "byteOf(" + way + ", " + (k - 1) + ", 1) = " + k, "told(" + (8 + way) + ") = " + k);
    }
    Script.run("'NOT_SO when it is full', " + way, x, "refused forge(" + way + ", 1281, 2) = -2",
        "refused forge(" + way + ", 1281, 9) = -1", "refused forge(" + way + ", 1281, 1) = -1",
        "forge(" + (1 - way) + ", 1281, 2) = 1", "lose(" + way + ") = 1", "forge(" + way + ", 1282, 2) = 8",
        "byteOf(" + way + ", 7, 1) = 2", "refused forge(" + way + ", 1281, 2) = -2");
  }
}
