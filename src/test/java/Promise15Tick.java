/** Promise 15: tick; what the timers do stands in the test of the timers. */
public final class Promise15Tick {
  public static void main(String[] args) {
    for (int wrong : new int[] {0, -1, 101, 256, -100, Integer.MIN_VALUE, Integer.MAX_VALUE}) {
      Script.run("'(1 .. 100)', both timers", Scenes.askedUpdate(), "refused tick(" + wrong + ") = -1");
      Script.run("'(1 .. 100)', no timers", Scenes.fresh(), "refused tick(" + wrong + ") = -1");
    }
    Script.run("no timers", Scenes.fresh(), "refused tick(1) = 0", "refused tick(100) = 0");
    Script.run("'each takes 1 of the mobile's timer'", Scenes.updating(), "tick(1) = 0", "mobile = 2 0 19 0",
        "tick(18) = 0", "mobile = 2 0 1 0", "tick(1) = 1", "mobile = 1 0 0 0", "tick(1) = 0", "mobile = 1 0 0 0");
    Script.run("'then of the network's'", Scenes.askedUpdate(), "tick(1) = 0", "mobile = 2 0 19 0",
        "network = 1 0 11 -1", "tick(10) = 0", "mobile = 2 0 9 0", "network = 1 0 1 -1", "tick(1) = 1",
        "mobile = 2 0 8 0", "network = 0 0 0 -1", "tick(8) = 1", "mobile = 1 0 0 0");
    Script.run("'How many timers came to 0': none, just before", Scenes.askedUpdate(), "tick(11) = 0");
    Script.run("'How many timers came to 0': one", Scenes.askedUpdate(), "tick(19) = 1");
    Script.run("'How many timers came to 0': both in one call", Scenes.askedUpdate(), "tick(20) = 2");
    Script.run("'How many timers came to 0': both in one tick", Scenes.mobileReleasing(), "tick(29) = 0",
        "mobile = 5 6 1 770", "network = 3 5 1 770", "tick(1) = 2", "mobile = 5 6 30 770", "network = 3 6 30 770");
    Script.run("100 ticks are taken, all of them", Scenes.mobileEnding(), "tick(100) = 3", "mobile = 3 0 0 770",
        "rows = 3 0", "up 1 = 03 2d", "up 2 = 03 2d");
    Script.run("100 ticks end three timers of each side", Scenes.bothEnding(), "tick(100) = 6", "mobile = 3 0 0 770",
        "network = 0 0 0 770", "rows = 3 3");
    Script.run("89 and 1 ticks", Scenes.bothEnding(), "tick(89) = 4", "mobile = 5 6 1 770", "network = 3 6 1 770",
        "tick(1) = 2", "mobile = 3 0 0 770", "network = 0 0 0 770");
    Script.run("a timer that starts again goes on from the next tick", Scenes.mobileEnding(), "tick(31) = 1",
        "mobile = 5 6 29 770");
    Script.run("without radio the time goes on", Scenes.lost(), "radio(false) = 1", "update(1) = 1", "tick(19) = 0",
        "mobile = 2 0 1 0", "tick(1) = 1", "mobile = 1 0 0 0");
    Script.end();
  }
}
