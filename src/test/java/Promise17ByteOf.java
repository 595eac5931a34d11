/** Promise 17: byteOf. */
public final class Promise17ByteOf {
  private static final int[] OUTSIDE = {-1, 2, 3, 7, 8, 9, 24, 256, Integer.MIN_VALUE, Integer.MAX_VALUE};

  public static void main(String[] args) {
    Script.run("'NONE' of empty rows", Scenes.fresh(), "refused byteOf(0, 0, 0) = -3", "refused byteOf(1, 0, 0) = -3",
        "refused byteOf(0, 7, 1) = -3", "refused byteOf(1, 7, 1) = -3");
    Script.run("'Byte i of message k (from 0) of a row'", Scenes.askedUpdate(), "forge(0, 0xff0080, 3) = 1",
        "forge(0, 0x0102, 2) = 2", "byteOf(0, 0, 0) = 255", "byteOf(0, 0, 1) = 0", "byteOf(0, 0, 2) = 128",
        "byteOf(0, 0, 3) = -3", "byteOf(0, 0, -1) = -3", "byteOf(0, 1, 0) = 1", "byteOf(0, 1, 1) = 2",
        "byteOf(0, 1, 2) = -3", "byteOf(0, 2, 0) = -3", "byteOf(0, -1, 0) = -3", "byteOf(1, 0, 0) = 5",
        "byteOf(1, 0, 1) = 18", "byteOf(1, 0, 7) = 166", "byteOf(1, 0, 8) = -3", "byteOf(1, 1, 0) = -3",
        "rows = 2 1");
    for (int n : OUTSIDE) {
      Script.run("'NONE': a way", Scenes.askedUpdate(), "refused byteOf(" + n + ", 0, 0) = -3");
      Script.run("'NONE': a message", Scenes.askedUpdate(), "refused byteOf(1, " + n + ", 0) = -3");
      Script.run("'NONE': a byte", Scenes.filled(Scenes.fresh(), 0, 1), "refused byteOf(0, 0, " + n + ") = -3");
    }
    Script.run("the last byte of twelve", Scenes.longest(), "byteOf(0, 0, 11) = 8", "byteOf(0, 0, 12) = -3",
        "byteOf(0, 0, 23) = -3");
    Script.run("the last of eight messages", Scenes.filled(Scenes.fresh(), 1, 7), "forge(1, 0x0607, 2) = 8",
        "byteOf(1, 7, 0) = 6", "byteOf(1, 7, 1) = 7", "byteOf(1, 8, 0) = -3", "lose(1) = 0", "byteOf(1, 6, 0) = 6",
        "byteOf(1, 7, 0) = -3");
    Script.run("the next one moves up", Scenes.fresh(), "forge(1, 0x0511, 2) = 1", "forge(1, 0x0909, 2) = 2",
        "byteOf(1, 1, 0) = 9", "carry(1) = 1017", "byteOf(1, 0, 0) = 9", "byteOf(1, 1, 0) = -3");
    Script.run("'NONE' of what was carried, lost or is without radio", Scenes.updating(), "byteOf(0, 0, 0) = 5",
        "carry(0) = 8", "byteOf(0, 0, 0) = -3", "byteOf(1, 0, 0) = 5", "lose(1) = 18", "byteOf(1, 0, 0) = -3",
        "forge(0, 0x0501, 2) = 1", "radio(false) = 1", "byteOf(0, 0, 0) = -3");
    Script.end();
  }
}
