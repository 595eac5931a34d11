/** Promise 13: spoil. */
public final class Promise13Spoil {
  public static void main(String[] args) {
    wrong();
    none();
    Script.run("'Byte i of it is xor mask', every byte", Scenes.updating(), "spoil(0, 0, 255) = 250",
        "spoil(0, 1, 1) = 9", "spoil(0, 2, 0) = 19", "spoil(0, 3, 3) = 1", "spoil(0, 4, 252) = 255",
        "spoil(0, 5, 2) = 0", "up 0 = fa 09 13 01 ff 00", "rows = 1 0");
    Script.run("'mask (0 .. 255)', 0", Scenes.updating(), "refused spoil(0, 0, 0) = 5", "refused spoil(0, 5, 0) = 2");
    Script.run("'mask (0 .. 255)', 255", Scenes.updating(), "spoil(0, 0, 255) = 250", "spoil(0, 5, 255) = 253",
        "up 0 = fa 08 13 02 03 fd", "spoil(0, 0, 255) = 5", "spoil(0, 5, 255) = 2", "up 0 = 05 08 13 02 03 02");
    Script.run("the first message alone, of that row alone", Scenes.fresh(), "forge up 05 01", "forge up 05 01",
        "forge down 05 01", "spoil(0, 1, 3) = 2", "up 0 = 05 02", "up 1 = 05 01", "down 0 = 05 01",
        "spoil(1, 0, 128) = 133", "down 0 = 85 01", "up 0 = 05 02");
    arrives();
    Script.end();
  }

  private static void wrong() {
    for (int mask : new int[] {-1, 256, -256, 257, Integer.MIN_VALUE, Integer.MAX_VALUE}) {
      Script.run("'BAD': a mask", Scenes.updating(), "refused spoil(0, 0, " + mask + ") = -1",
          "refused spoil(0, 6, " + mask + ") = -1", "refused spoil(1, 0, " + mask + ") = -1",
          "refused spoil(2, 0, " + mask + ") = -1");
    }
    for (int way : new int[] {-1, 2, 3, 256, Integer.MIN_VALUE, Integer.MAX_VALUE}) {
      Script.run("'BAD': a way", Scenes.updating(), "refused spoil(" + way + ", 0, 1) = -1",
          "refused spoil(" + way + ", 0, 0) = -1", "refused spoil(" + way + ", 6, 255) = -1");
      Script.run("'BAD': a way, DOWN not empty", Scenes.askedUpdate(), "refused spoil(" + way + ", 0, 1) = -1");
    }
  }

  private static void none() {
    Script.run("'NONE' of empty rows", Scenes.fresh(), "refused spoil(0, 0, 1) = -3", "refused spoil(1, 0, 1) = -3",
        "refused spoil(0, -1, 0) = -3", "refused spoil(1, 24, 255) = -3");
    Script.run("'NONE' of the empty row", Scenes.updating(), "refused spoil(1, 0, 1) = -3");
    for (int i : new int[] {-1, 6, 7, 8, 23, 24, 25, Integer.MIN_VALUE, Integer.MAX_VALUE}) {
      Script.run("'(also when it has no such byte)'", Scenes.updating(), "refused spoil(0, " + i + ", 1) = -3",
          "refused spoil(0, " + i + ", 0) = -3");
    }
    Script.run("two bytes", Scenes.filled(Scenes.fresh(), 0, 1), "spoil(0, 1, 1) = 1", "refused spoil(0, 2, 1) = -3");
    Script.run("twelve bytes", Scenes.longest(), "spoil(0, 11, 255) = 247", "refused spoil(0, 12, 1) = -3",
        "up 0 = 03 05 5e 08 01 02 03 04 05 06 07 f7");
    Script.run("the next message is not looked at", Scenes.fresh(), "forge up 05 01", "forge up 05 01 09 00",
        "refused spoil(0, 2, 1) = -3", "refused spoil(0, 3, 1) = -3");
  }

  private static void arrives() {
    Script.run("it arrives spoilt", Scenes.updating(), "spoil(0, 5, 1) = 3", "carry(0) = 8", "carry(1) = 18",
        "carry(0) = 20", "network = 0 0 0 771", "carry(1) = 2", "mobile = 3 0 0 771");
    Script.run("its length spoilt", Scenes.updating(), "spoil(0, 3, 1) = 3", "carry(0) = 1008", "left = 1");
    Script.run("its type spoilt", Scenes.updating(), "spoil(0, 1, 9) = 1", "carry(0) = 1", "network = 0 0 0 -1");
    Script.run("its protocol spoilt", Scenes.updating(), "spoil(0, 0, 6) = 3", "carry(0) = 1008");
    Script.run("a wrong answer, the lowest bit", Scenes.askedService(), "carry(1) = 18", "spoil(0, 7, 1) = 216",
        "carry(0) = 20", "network = 0 0 0 -1", "carry(1) = 17", "mobile = 1 0 0 770");
    Script.run("a wrong answer, the highest bit", Scenes.carry(Scenes.askedService(), 1), "spoil(0, 4, 128) = "
        + (Answers.answer(0x967eb0e7, 5) >>> 24 ^ 128), "carry(0) = 20", "network = 0 0 0 -1", "carry(1) = 17");
  }
}
