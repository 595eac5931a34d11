/** Terms: what each side does when its timer is at 0, and that nothing else has one. */
public final class TermsTimers {
  public static void main(String[] args) {
    mobile("updating", 20, "1 0 0 0", "none");
    mobile("asking", 15, "3 0 0 770", "none");
    mobile("call 1", 30, "3 0 0 770", "03 2a");
    mobile("call 5", 30, "5 6 30 770", "03 2d");
    mobile("call 6", 30, "5 6 30 770", "03 2d");
    network("asked update", 12, "0 0 0 -1", "none");
    network("asked service", 12, "0 0 0 770", "none");
    network("call 3", 10, "3 5 30 770", "03 25 08 01 66");
    network("call 5", 30, "3 6 30 770", "03 2d");
    network("call 6", 30, "3 6 30 770", "03 2d");
    for (String situation : new String[] {"off", "lost", "registered", "call 2", "call 3", "call 4"}) {
      Script.run("no timer when " + situation, Scenes.ofMobile(situation), "told(2) = 0", "refused tick(100) = 0");
    }
    for (String situation : new String[] {"idle", "idle, area", "call 1", "call 2", "call 4"}) {
      Script.run("no timer when " + situation, Scenes.ofNetwork(situation), "told(6) = 0", "refused tick(100) = 0");
    }
    Script.run("no timer when connected without a call", Scenes.emptied(Scenes.setUp()), "tick(30) = 1",
        "network = 3 0 0 770", "tick(100) = 0", "network = 3 0 0 770");
    releasingMobile();
    releasingNetwork();
    changes();
    lastMoment();
    Script.end();
  }

  private static void releasingMobile() {
    Script.run("'the first time RELEASE is sent once more; then call NONE, REGISTERED'", Scenes.ofMobile("call 6"),
        "tick(30) = 2", "mobile = 5 6 30 770", "up 0 = 03 2d", "lose(0) = 45", "tick(29) = 0", "mobile = 5 6 1 770",
        "tick(1) = 2", "mobile = 3 0 0 770", "rows = 0 2", "tick(29) = 0", "mobile = 3 0 0 770");
    Script.run("'ENDING: RELEASE is sent, RELEASING', which has a first time too", Scenes.ofMobile("call 5"),
        "tick(30) = 1", "mobile = 5 6 30 770", "rows = 1 0", "tick(30) = 1", "mobile = 5 6 30 770", "rows = 2 0",
        "tick(30) = 1", "mobile = 3 0 0 770", "rows = 2 0", "up 0 = 03 2d", "up 1 = 03 2d");
    Script.run("the next release has its own first time", Scenes.ofMobile("call 6"), "tick(100) = 5",
        "mobile = 3 0 0 770", "network = 0 0 0 770", "radio(false) = 1", "radio(true) = 1", "dial(1, 1) = 1",
        "carry(0) = 36", "carry(1) = 18", "carry(0) = 20", "carry(1) = 33", "forge down 03 25 08 01 01",
        "carry(1) = 37", "mobile = 5 6 30 770", "lose(0) = 5", "lose(0) = 45", "tick(30) = 1",
        "mobile = 5 6 30 770", "up 0 = 03 2d", "tick(30) = 1", "mobile = 3 0 0 770", "rows = 1 0");
    Script.run("a release that was cut off by the radio counts for no other", Scenes.ofMobile("call 6"),
        "tick(30) = 2", "radio(false) = 1", "radio(true) = 1", "dial(1, 1) = 1", "carry(0) = 36", "carry(1) = 18",
        "carry(0) = 20", "carry(1) = 33", "forge down 03 25 08 01 01", "carry(1) = 37", "tick(30) = 1",
        "mobile = 5 6 30 770", "tick(30) = 1", "mobile = 3 0 0 770");
    Script.run("the first time counts though the row is full", Scenes.filled(Scenes.ofMobile("call 6"), 0, 8),
        "tick(30) = 2", "mobile = 5 6 30 770", "up 7 = 05 00", "tick(30) = 2", "mobile = 3 0 0 770");
  }

  private static void releasingNetwork() {
    Script.run("'as the mobile's, but IDLE'", Scenes.ofNetwork("call 6"), "tick(30) = 2", "network = 3 6 30 770",
        "tick(29) = 0", "network = 3 6 1 770", "tick(1) = 2", "network = 0 0 0 770", "down 0 = 03 2d", "rows = 2 1");
    Script.run("'ENDING' of the network's", Scenes.ofNetwork("call 5"), "tick(30) = 1", "network = 3 6 30 770",
        "tick(30) = 1", "network = 3 6 30 770", "rows = 0 2", "tick(30) = 1", "network = 0 0 0 770", "rows = 0 2");
    Script.run("ANSWERED, to its very end", Scenes.ofNetwork("call 3"), "tick(10) = 1", "network = 3 5 30 770",
        "tick(30) = 1", "network = 3 6 30 770", "tick(30) = 1", "network = 3 6 30 770", "tick(30) = 1",
        "network = 0 0 0 770", "rows = 0 3", "down 0 = 03 25 08 01 66", "down 1 = 03 2d", "down 2 = 03 2d");
    Script.run("the next release has its own first time", Scenes.ofNetwork("call 6"), "tick(30) = 2",
        "forge up 03 2a", "lose(0) = 45", "carry(0) = 42", "network = 0 0 0 770", "forge up 05 24", "carry(0) = 36",
        "forge up 05 14 22 04 " + Answers.hex(0x2781e494, 5), "carry(0) = 20", "forge up 03 05 5e 01 01",
        "carry(0) = 5", "forge up 03 25 08 01 01", "carry(0) = 37", "network = 3 6 30 770", "tick(30) = 2",
        "network = 3 6 30 770", "tick(30) = 2", "network = 0 0 0 770");
  }

  /** What begins with a timer and goes on without one. */
  private static void changes() {
    String none = "'A state or call that changes has no timer, if none is told', ";
    Script.run(none + "UPDATED", Scenes.ofMobile("updating"), "forge down 05 02 13 02 00 01", "carry(1) = 2",
        "mobile = 3 0 0 1", "tick(100) = 0");
    Script.run(none + "REFUSED", Scenes.ofMobile("updating"), "forge down 05 04 08 01 01", "carry(1) = 4",
        "mobile = 1 0 0 0", "tick(100) = 0");
    Script.run(none + "NOT SERVED", Scenes.ofMobile("asking"), "forge down 05 22 08 01 01", "carry(1) = 34",
        "mobile = 3 0 0 770", "tick(100) = 0");
    Script.run(none + "EXPELLED", Scenes.ofMobile("call 6"), "forge down 05 11", "carry(1) = 17",
        "mobile = 1 0 0 770", "radio(false) = 1", "tick(100) = 0");
    Script.run(none + "switched off", Scenes.ofMobile("updating"), "power(false) = 1", "mobile = 0 0 0 0",
        "tick(100) = 0");
    Script.run(none + "DETACH", Scenes.ofNetwork("asked service"), "forge up 05 01", "carry(0) = 1",
        "network = 0 0 0 -1", "tick(14) = 0", "network = 0 0 0 -1");
    Script.run("a timer that is told begins anew", Scenes.ofNetwork("call 3"), "tick(4) = 0", "clear(1) = 1",
        "network = 3 5 30 770", "tick(29) = 0", "network = 3 5 1 770");
    Script.run("SET UP has 30, whatever was left of ASKING", Scenes.ofMobile("asking"), "tick(14) = 0",
        "mobile = 4 0 1 770", "forge down 05 21", "carry(1) = 33", "mobile = 5 1 30 770");
  }

  /** A message that comes while the timer is 1 is in time; a tick later it is LEFT. */
  private static void lastMoment() {
    lastMoment("updating", 19, "forge down 05 02 13 02 00 01", "carry(1) = 2", "3 0 0 1", "carry(1) = 1002", "1 0 0 0");
    lastMoment("asking", 14, "forge down 05 22 08 01 01", "carry(1) = 34", "3 0 0 770", "carry(1) = 1034",
        "3 0 0 770");
    lastMoment("call 1", 29, "forge down 03 02", "carry(1) = 2", "5 2 0 770", "carry(1) = 1002", "3 0 0 770");
    Script.run("CONNECTED just in time", Scenes.carry(Scenes.answered(), 1), "tick(9) = 0", "carry(0) = 15",
        "network = 3 4 0 770", "tick(1) = 0");
    Script.run("CONNECTED too late", Scenes.carry(Scenes.answered(), 1), "tick(10) = 1", "carry(0) = 1015",
        "network = 3 5 30 770");
  }

  private static void lastMoment(String situation, int ticks, String forge, String inTime, String then, String late,
      String without) {
    MobileCall x = Scenes.ofMobile(situation);
    x.tick(ticks);
    Script.run(situation + ", just in time", x, "told(2) = 1", forge, inTime, "mobile = " + then);
    MobileCall y = Scenes.ofMobile(situation);
    y.tick(ticks + 1);
    Script.run(situation + ", too late", y, "told(2) = 0", forge, late, "mobile = " + without);
  }

  private static void mobile(String situation, int time, String then, String sent) {
    Script.run("mobile " + situation, Scenes.ofMobile(situation), "told(2) = " + time, "tick(" + (time - 1) + ") = "
        + others(Scenes.ofMobile(situation), 6, time - 1), "told(2) = 1", "rows = 0 "
        + sentBefore(Scenes.ofMobile(situation), 9, time - 1), "tick(1) = "
        + (1 + others(later(Scenes.ofMobile(situation), time - 1), 6, 1)), "mobile = " + then, "up 0 = " + sent);
  }

  private static void network(String situation, int time, String then, String sent) {
    Script.run("network " + situation, Scenes.ofNetwork(situation), "told(6) = " + time, "tick(" + (time - 1) + ") = "
        + others(Scenes.ofNetwork(situation), 2, time - 1), "told(6) = 1", "rows = "
        + sentBefore(Scenes.ofNetwork(situation), 8, time - 1) + " 0", "tick(1) = "
        + (1 + others(later(Scenes.ofNetwork(situation), time - 1), 2, 1)), "network = " + then, "down 0 = " + sent);
  }

  /** Whether the other side's timer comes to 0 in so many ticks. */
  private static int others(MobileCall x, int timer, int ticks) {
    int time = x.told(timer);
    return time > 0 && time <= ticks ? 1 : 0;
  }

  private static int sentBefore(MobileCall x, int row, int ticks) {
    x.tick(ticks);
    return x.told(row);
  }

  private static MobileCall later(MobileCall x, int ticks) {
    x.tick(ticks);
    return x;
  }
}
