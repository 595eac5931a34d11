/** Promise 13: spoil. */
public final class Promise13Spoil {
  public static void main(String[] args) {
    Script.run("empty rows and wrong ways", Scenes.fresh(), "spoil(0, 0, 1) = -3", "spoil(1, 0, 1) = -3",
        "spoil(2, 0, 1) = -1", "spoil(-1, 0, 1) = -1", "spoil(0, 0, 256) = -1", "spoil(0, 0, -1) = -1",
        "spoil(0, -1, 256) = -1");
    Script.run("every byte", Scenes.updating(), "spoil(0, 0, 255) = 250", "spoil(0, 1, 1) = 9",
        "spoil(0, 2, 0) = 19", "spoil(0, 3, 3) = 1", "spoil(0, 4, 252) = 255", "spoil(0, 5, 2) = 0",
        "up 0 = fa 09 13 01 ff 00", "rows = 1 0");
    Script.run("no such byte", Scenes.updating(), "spoil(0, 6, 1) = -3", "spoil(0, -1, 1) = -3",
        "spoil(0, 2147483647, 1) = -3", "spoil(0, 23, 1) = -3", "spoil(0, 24, 1) = -3", "spoil(0, 6, 256) = -1",
        "up 0 = 05 08 13 02 03 02");
    Script.run("only the first message, of that row", Scenes.fresh(), "forge up 05 01", "forge up 05 01",
        "forge down 05 01", "spoil(0, 1, 3) = 2", "up 0 = 05 02", "up 1 = 05 01", "down 0 = 05 01",
        "spoil(1, 0, 128) = 133", "down 0 = 85 01", "up 0 = 05 02");
    Script.run("it arrives spoilt", Scenes.updating(), "spoil(0, 5, 1) = 3", "carry(0) = 8", "carry(1) = 18",
        "carry(0) = 20", "network = 0 0 0 771", "carry(1) = 2", "mobile = 3 0 0 771");
    Script.run("its length spoilt", Scenes.updating(), "spoil(0, 3, 1) = 3", "carry(0) = 1008", "left = 1");
    Script.run("a wrong answer", Scenes.askedService(), "carry(1) = 18", "spoil(0, 7, 1) = 216", "carry(0) = 20",
        "network = 0 0 0 -1", "carry(1) = 17", "mobile = 1 0 0 770");
    Script.end();
  }
}
