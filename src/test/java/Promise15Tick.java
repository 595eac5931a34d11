/** Promise 15: tick; what the timers do stands in the test of the timers. */
public final class Promise15Tick {
  public static void main(String[] args) {
    Script.run("wrong numbers", Scenes.updating(), "tick(0) = -1", "tick(-1) = -1", "tick(101) = -1",
        "tick(2147483647) = -1", "tick(-2147483648) = -1", "mobile = 2 0 20 0");
    Script.run("no timers", Scenes.fresh(), "tick(1) = 0", "tick(100) = 0", "mobile = 0 0 0 0", "network = 0 0 0 -1");
    Script.run("one by one", Scenes.updating(), "tick(1) = 0", "mobile = 2 0 19 0", "tick(18) = 0",
        "mobile = 2 0 1 0", "tick(1) = 1", "mobile = 1 0 0 0", "tick(1) = 0");
    Script.run("both sides", Scenes.askedUpdate(), "tick(11) = 0", "mobile = 2 0 9 0", "network = 1 0 1 -1",
        "tick(1) = 1", "mobile = 2 0 8 0", "network = 0 0 0 -1", "tick(8) = 1", "mobile = 1 0 0 0");
    Script.run("both in one call", Scenes.askedUpdate(), "tick(100) = 2", "mobile = 1 0 0 0", "network = 0 0 0 -1");
    Script.run("a timer that starts again in the same call", Scenes.mobileEnding(), "tick(100) = 3",
        "mobile = 3 0 0 770", "rows = 3 0", "up 1 = 03 2d", "up 2 = 03 2d");
    Script.run("a timer that starts again goes on from the next tick", Scenes.mobileEnding(), "tick(31) = 1",
        "mobile = 5 6 29 770");
    Script.end();
  }
}
