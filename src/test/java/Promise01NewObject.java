/** Promise 1: how a new object stands. */
public final class Promise01NewObject {
  public static void main(String[] args) {
    for (int number : new int[] {0, 1, -1, Integer.MIN_VALUE, Integer.MAX_VALUE}) {
      Script.run("a new object of " + number, new MobileCall(number, ~number, number), "mobile = 0 0 0 0",
          "network = 0 0 0 -1", "rows = 0 0", "left = 0", "told(11) = 1", "causes = -1 -1");
    }
    states();
    keysAndSeed();
    Script.run("'updates and services are accepted'", Scenes.lost(), "update(1) = 1", "carry(0) = 8",
        "carry(1) = 18", "carry(0) = 20", "carry(1) = 2", "dial(1, 1) = 1", "carry(0) = 36", "carry(1) = 18",
        "carry(0) = 20", "carry(1) = 33");
    sideBySide();
    Script.end();
  }

  private static void states() {
    Script.run("'OFF'", Scenes.fresh(), "refused power(false) = -2", "refused update(0) = -2",
        "refused dial(0, 1) = -2", "refused hang() = -2", "power(true) = 1");
    Script.run("'IDLE'", Scenes.fresh(), "refused alert() = -2", "refused answer() = -2", "refused clear(0) = -2",
        "refused digit(0) = -3", "forge up 05 08 13 02 00 00", "carry(0) = 8");
    Script.run("'no area known'", Scenes.fresh(), "told(7) = -1", "forge up 05 24", "carry(0) = 36",
        "down 0 = 05 22 08 01 04");
    Script.run("'radio'", Scenes.fresh(), "refused radio(true) = -2", "forge(0, 0, 2) = 1", "forge(1, 0, 2) = 1");
    Script.run("nothing is on its way", Scenes.fresh(), "refused carry(0) = -3", "refused carry(1) = -3",
        "refused tick(100) = 0");
  }

  private static void keysAndSeed() {
    Script.run("'the first challenge's seed', 0", new MobileCall(-77, -77, 0), "power(true) = 1", "update(1) = 1",
        "carry(0) = 8", "down 0 = 05 12 21 04 00 00 30 39", "carry(1) = 18", "carry(0) = 20", "carry(1) = 2");
    Script.run("'the mobile's key'", new MobileCall(0, 5, 1), "power(true) = 1", "update(1) = 1",
        "forge down 05 12 21 04 00 00 00 01", "carry(1) = 18", "lose(0) = 8", "up 0 = 05 14 22 04 20 00 32 60");
    Script.run("'the network's'", new MobileCall(0, 5, 1), "forge up 05 08 13 02 00 01", "carry(0) = 8",
        "forge up 05 14 22 04 " + Answers.hex(0x41c67ea6, 5), "carry(0) = 20", "network = 0 0 0 1");
    Script.run("keys that differ in the highest bit", new MobileCall(-77, -77 ^ 0x80000000, 0), "power(true) = 1",
        "update(1) = 1", "carry(0) = 8", "carry(1) = 18", "carry(0) = 20", "carry(1) = 17");
  }

  private static void sideBySide() {
    MobileCall one = Scenes.ringing();
    MobileCall two = Scenes.fresh();
    Script.run("another object is new all the same", two, "mobile = 0 0 0 0", "network = 0 0 0 -1", "digit(0) = -3",
        "forge up 05 08 13 02 00 01", "carry(0) = 8", "down 0 = 05 12 21 04 41 c6 7e a6");
    Script.run("and the first one stays", one, "mobile = 5 3 0 770", "network = 3 2 0 770", "rows = 0 0",
        "digit(0) = 4");
  }
}
