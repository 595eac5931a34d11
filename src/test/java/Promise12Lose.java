/** Promise 12: lose. */
public final class Promise12Lose {
  public static void main(String[] args) {
    Script.run("empty rows and wrong ways", Scenes.fresh(), "lose(0) = -3", "lose(1) = -3", "lose(2) = -1",
        "lose(-1) = -1", "lose(2147483647) = -1");
    Script.run("it does nothing", Scenes.updating(), "lose(0) = 8", "rows = 0 0", "network = 0 0 0 -1", "left = 0",
        "lose(0) = -3", "mobile = 2 0 20 0");
    Script.run("the way down", Scenes.askedUpdate(), "lose(1) = 18", "rows = 0 0", "mobile = 2 0 20 0", "left = 0",
        "lose(1) = -3");
    Script.run("the first of several, told or not", Scenes.fresh(), "forge up 05 00", "forge up 09 ff 01",
        "forge down 05 11", "lose(0) = 0", "rows = 1 1", "up 0 = 09 ff 01", "lose(0) = 255", "rows = 0 1",
        "left = 0");
    Script.end();
  }
}
