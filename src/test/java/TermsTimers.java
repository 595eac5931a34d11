/** Terms: what each side does when its timer is at 0, and that nothing else has one. */
public final class TermsTimers {
  public static void main(String[] args) {
    mobile("updating", 20, "1 0 0 0", "none");
    mobile("asking", 15, "3 0 0 770", "none");
    mobile("call 1", 30, "3 0 0 770", "03 2a");
    mobile("call 5", 30, "5 6 30 770", "03 2d");
    mobile("call 6", 30, "5 6 30 770", "03 2d");
    network("asked update", 12, "0 0 0 -1", "none");
    network("asked service", 12, "0 0 0 770", "none");
    network("call 3", 10, "3 5 30 770", "03 25 08 01 66");
    network("call 5", 30, "3 6 30 770", "03 2d");
    network("call 6", 30, "3 6 30 770", "03 2d");
    for (String situation : new String[] {"off", "lost", "registered", "call 2", "call 3", "call 4"}) {
      Script.run("no timer when " + situation, Scenes.ofMobile(situation), "told(2) = 0", "tick(100) = 0");
    }
    for (String situation : new String[] {"idle", "idle, area", "call 1", "call 2", "call 4"}) {
      Script.run("no timer when " + situation, Scenes.ofNetwork(situation), "told(6) = 0", "tick(100) = 0");
    }
    Script.run("no timer when connected without a call", Scenes.emptied(Scenes.setUp()), "tick(30) = 1",
        "network = 3 0 0 770", "tick(100) = 0", "network = 3 0 0 770");
    releasing();
    Script.end();
  }

  private static void releasing() {
    Script.run("mobile: once more, then no call", Scenes.ofMobile("call 6"), "tick(30) = 2",
        "mobile = 5 6 30 770", "up 0 = 03 2d", "lose(0) = 45", "tick(29) = 0", "mobile = 5 6 1 770", "tick(1) = 2",
        "mobile = 3 0 0 770", "rows = 0 2");
    Script.run("network: once more, then idle", Scenes.ofNetwork("call 6"), "tick(30) = 2", "network = 3 6 30 770",
        "tick(30) = 2", "network = 0 0 0 770", "down 0 = 03 2d", "rows = 2 1");
    Script.run("mobile: the next release has its own first time", Scenes.ofMobile("call 6"), "tick(100) = 5",
        "mobile = 3 0 0 770", "network = 0 0 0 770", "radio(false) = 1", "radio(true) = 1", "dial(1, 1) = 1",
        "carry(0) = 36", "carry(1) = 18", "carry(0) = 20", "carry(1) = 33", "forge down 03 25 08 01 01",
        "carry(1) = 37", "mobile = 5 6 30 770", "lose(0) = 5", "lose(0) = 45", "tick(30) = 1",
        "mobile = 5 6 30 770", "up 0 = 03 2d", "tick(30) = 1", "mobile = 3 0 0 770", "rows = 1 0");
    Script.run("network: an ended call that is released after a time", Scenes.ofNetwork("call 5"), "tick(30) = 1",
        "network = 3 6 30 770", "tick(30) = 1", "network = 3 6 30 770", "rows = 0 2", "tick(30) = 1",
        "network = 0 0 0 770", "rows = 0 2");
    Script.run("network: a call released in the middle of it", Scenes.ofNetwork("call 6"), "tick(30) = 2",
        "forge up 03 2a", "network = 3 6 30 770", "lose(0) = 45", "carry(0) = 42", "network = 0 0 0 770");
  }

  private static void mobile(String situation, int time, String then, String sent) {
    Script.run("mobile " + situation, Scenes.ofMobile(situation), "told(2) = " + time, "tick(" + (time - 1) + ") = "
        + others(Scenes.ofMobile(situation), 6, time - 1), "told(2) = 1", "rows = 0 "
        + sentBefore(Scenes.ofMobile(situation), 9, time - 1), "tick(1) = "
        + (1 + others(later(Scenes.ofMobile(situation), time - 1), 6, 1)), "mobile = " + then, "up 0 = " + sent);
  }

  private static void network(String situation, int time, String then, String sent) {
    Script.run("network " + situation, Scenes.ofNetwork(situation), "told(6) = " + time, "tick(" + (time - 1) + ") = "
        + others(Scenes.ofNetwork(situation), 2, time - 1), "told(6) = 1", "rows = "
        + sentBefore(Scenes.ofNetwork(situation), 8, time - 1) + " 0", "tick(1) = "
        + (1 + others(later(Scenes.ofNetwork(situation), time - 1), 2, 1)), "network = " + then, "down 0 = " + sent);
  }

  /** Whether the other side's timer comes to 0 in so many ticks. */
  private static int others(MobileCall x, int timer, int ticks) {
    int time = x.told(timer);
    return time > 0 && time <= ticks ? 1 : 0;
  }

  private static int sentBefore(MobileCall x, int row, int ticks) {
    x.tick(ticks);
    return x.told(row);
  }

  private static MobileCall later(MobileCall x, int ticks) {
    x.tick(ticks);
    return x;
  }
}
