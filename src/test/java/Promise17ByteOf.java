/** Promise 17: byteOf. */
public final class Promise17ByteOf {
  public static void main(String[] args) {
    Script.run("empty", Scenes.fresh(), "byteOf(0, 0, 0) = -3", "byteOf(1, 0, 0) = -3");
    Script.run("both rows", Scenes.askedUpdate(), "forge(0, 0xfffe80, 3) = 1", "forge(0, 0x0102, 2) = 2",
        "byteOf(0, 0, 0) = 255", "byteOf(0, 0, 1) = 254", "byteOf(0, 0, 2) = 128", "byteOf(0, 0, 3) = -3",
        "byteOf(0, 0, -1) = -3", "byteOf(0, 1, 0) = 1", "byteOf(0, 1, 1) = 2", "byteOf(0, 1, 2) = -3",
        "byteOf(0, 2, 0) = -3", "byteOf(0, -1, 0) = -3", "byteOf(1, 0, 0) = 5", "byteOf(1, 0, 1) = 18",
        "byteOf(1, 0, 7) = 166", "byteOf(1, 0, 8) = -3", "byteOf(1, 1, 0) = -3", "rows = 2 1");
    Script.run("wrong numbers", Scenes.askedUpdate(), "byteOf(2, 0, 0) = -3", "byteOf(-1, 0, 0) = -3",
        "byteOf(1, 2147483647, 0) = -3", "byteOf(1, -2147483648, 0) = -3", "byteOf(1, 0, 2147483647) = -3",
        "byteOf(1, 0, -2147483648) = -3", "byteOf(1, 8, 0) = -3", "byteOf(1, 0, 24) = -3");
    Script.run("the next one moves up", Scenes.fresh(), "forge(1, 0x0511, 2) = 1", "forge(1, 0x0909, 2) = 2",
        "byteOf(1, 1, 0) = 9", "carry(1) = 1017", "byteOf(1, 0, 0) = 9", "byteOf(1, 1, 0) = -3");
    Script.end();
  }
}
