/** Promise 7: answer. */
public final class Promise07Answer {
  public static void main(String[] args) {
    for (String situation : new String[] {"call 1", "call 2"}) {
      Script.run("'with call 1 or 2', " + situation, Scenes.ofNetwork(situation), "answer() = 1",
          "network = 3 3 10 770", "rows = 0 1", "down 0 = 03 07", "refused answer() = -2", "carry(1) = 7",
          "mobile = 5 4 0 770", "up 0 = 03 0f", "carry(0) = 15", "network = 3 4 0 770");
    }
    for (String situation : new String[] {"idle", "idle, area", "asked update", "asked service", "call 0",
        "call 3", "call 4", "call 5", "call 6"}) {
      Script.run("'NOT_SO' when " + situation, Scenes.ofNetwork(situation), "refused answer() = -2");
    }
    Script.run("'NOT_SO' in the middle of a time", Scenes.answered(), "tick(9) = 0", "refused answer() = -2",
        "network = 3 3 1 770");
    Script.end();
  }
}
