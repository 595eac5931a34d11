/** Promise 12: lose. */
public final class Promise12Lose {
  public static void main(String[] args) {
    for (int wrong : new int[] {-1, 2, 3, 256, Integer.MIN_VALUE, Integer.MAX_VALUE}) {
      Script.run("'BAD', empty rows", Scenes.fresh(), "refused lose(" + wrong + ") = -1");
      Script.run("'BAD', a row that is not empty", Scenes.updating(), "refused lose(" + wrong + ") = -1");
      Script.run("'BAD', a row that is not empty", Scenes.askedUpdate(), "refused lose(" + wrong + ") = -1");
    }
    Script.run("'NONE'", Scenes.fresh(), "refused lose(0) = -3", "refused lose(1) = -3");
    Script.run("'It is gone instead', UP", Scenes.updating(), "refused lose(1) = -3", "lose(0) = 8", "rows = 0 0",
        "network = 0 0 0 -1", "left = 0", "refused lose(0) = -3", "mobile = 2 0 20 0");
    Script.run("'It is gone instead', DOWN", Scenes.askedUpdate(), "refused lose(0) = -3", "lose(1) = 18",
        "rows = 0 0", "mobile = 2 0 20 0", "left = 0", "refused lose(1) = -3");
    Script.run("'its type', the first of several, told or not", Scenes.fresh(), "forge up 05 00", "forge up 09 ff 01",
        "forge down 05 11", "lose(0) = 0", "rows = 1 1", "up 0 = 09 ff 01", "lose(0) = 255", "rows = 0 1",
        "left = 0", "lose(1) = 17");
    Script.run("a full row is lost to its end", Scenes.filled(Scenes.fresh(), 1, 8), "lose(1) = 0", "lose(1) = 0",
        "lose(1) = 0", "lose(1) = 0", "lose(1) = 0", "lose(1) = 0", "lose(1) = 0", "rows = 0 1", "lose(1) = 0",
        "rows = 0 0", "refused lose(1) = -3", "left = 0");
    Script.end();
  }
}
