/** Promise 14: forge. */
public final class Promise14Forge {
  public static void main(String[] args) {
    Script.run("wrong ways and lengths", Scenes.fresh(), "forge(2, 1281, 2) = -1", "forge(-1, 1281, 2) = -1",
        "forge(0, 1281, 1) = -1", "forge(0, 1281, 0) = -1", "forge(0, 1281, -1) = -1", "forge(0, 1281, 9) = -1",
        "forge(0, 1281, 2147483647) = -1", "rows = 0 0");
    Script.run("its bytes", Scenes.fresh(), "forge(0, 0x0102030405060708, 2) = 1",
        "forge(0, 0x0102030405060708, 3) = 2", "forge(0, 0x0102030405060708, 8) = 3", "forge(0, -1, 8) = 4",
        "forge(0, -2, 7) = 5", "forge(1, 5, 4) = 1", "up 0 = 07 08", "up 1 = 06 07 08",
        "up 2 = 01 02 03 04 05 06 07 08", "up 3 = ff ff ff ff ff ff ff ff", "up 4 = ff ff ff ff ff ff fe",
        "down 0 = 00 00 00 05", "rows = 5 1");
    full(0);
    full(1);
    Script.run("without radio", Scenes.fresh(), "radio(false) = 1", "forge(0, 1281, 2) = -2",
        "forge(1, 1281, 2) = -2", "forge(0, 1281, 9) = -1", "forge(2, 1281, 2) = -1", "rows = 0 0");
    Script.run("nothing of a longer message before it stays", Scenes.askedUpdate(), "lose(1) = 18",
        "forge down 05 11", "forge down 05 11", "forge down 05 11", "forge down 05 11", "forge down 05 11",
        "forge down 05 11", "forge down 05 11", "forge down 05 11", "down 7 = 05 11", "carry(1) = 17");
    Script.end();
  }

  private static void full(int way) {
    MobileCall x = Scenes.fresh();
    for (int k = 1; k <= 8; k++) {
      Script.run("filling " + way, x, "forge(" + way + ", 1281, 2) = " + k);
    }
    Script.run("full " + way, x, "forge(" + way + ", 1281, 2) = -2", "forge(" + way + ", 1281, 9) = -1",
        "forge(" + (1 - way) + ", 1281, 2) = 1", "lose(" + way + ") = 1", "forge(" + way + ", 1282, 2) = 8",
        "byteOf(" + way + ", 7, 1) = 2");
  }
}
