/** Promise 1: how a new object stands. */
public final class Promise01NewObject {
  public static void main(String[] args) {
    Script.run("new", Scenes.fresh(),
        "mobile = 0 0 0 0", "network = 0 0 0 -1", "rows = 0 0", "left = 0", "told(11) = 1", "causes = -1 -1");
    Script.run("new with the outermost numbers", new MobileCall(Integer.MIN_VALUE, Integer.MAX_VALUE, -1),
        "mobile = 0 0 0 0", "network = 0 0 0 -1", "rows = 0 0", "left = 0", "told(11) = 1", "causes = -1 -1");
    keysAndSeed();
    bothAccepted();
    Script.end();
  }

  private static void keysAndSeed() {
    MobileCall same = new MobileCall(-77, -77, 0);
    Script.run("seed 0, same keys", same, "power(true) = 1", "update(1) = 1", "carry(0) = 8",
        "down 0 = 05 12 21 04 00 00 30 39", "carry(1) = 18", "carry(0) = 20", "carry(1) = 2");
    MobileCall other = new MobileCall(-77, -76, 0);
    Script.run("seed 0, other keys", other, "power(true) = 1", "update(1) = 1", "carry(0) = 8",
        "carry(1) = 18", "carry(0) = 20", "carry(1) = 17");
  }

  private static void bothAccepted() {
    Script.run("updates and services are accepted", Scenes.lost(), "update(1) = 1", "carry(0) = 8",
        "carry(1) = 18", "carry(0) = 20", "carry(1) = 2", "dial(1, 1) = 1", "carry(0) = 36", "carry(1) = 18",
        "carry(0) = 20", "carry(1) = 33");
  }
}
