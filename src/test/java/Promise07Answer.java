/** Promise 7: answer. */
public final class Promise07Answer {
  public static void main(String[] args) {
    for (String situation : new String[] {"call 1", "call 2"}) {
      Script.run("when " + situation, Scenes.ofNetwork(situation), "answer() = 1", "network = 3 3 10 770",
          "rows = 0 1", "down 0 = 03 07", "answer() = -2", "rows = 0 1", "carry(1) = 7", "mobile = 5 4 0 770",
          "up 0 = 03 0f", "carry(0) = 15", "network = 3 4 0 770");
    }
    for (String situation : new String[] {"idle", "idle, area", "asked update", "asked service", "call 0",
        "call 3", "call 4", "call 5", "call 6"}) {
      Script.run("when " + situation, Scenes.ofNetwork(situation), "answer() = -2", "rows = 0 0");
    }
    Script.end();
  }
}
