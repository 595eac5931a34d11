/** Promise 6: alert. */
public final class Promise06Alert {
  public static void main(String[] args) {
    Script.run("ordinary", Scenes.onItsWay(), "alert() = 1", "network = 3 2 0 770", "rows = 0 1", "down 0 = 03 01",
        "alert() = -2", "rows = 0 1", "carry(1) = 1", "mobile = 5 3 0 770");
    for (String situation : new String[] {"idle", "idle, area", "asked update", "asked service", "call 0",
        "call 2", "call 3", "call 4", "call 5", "call 6"}) {
      Script.run("when " + situation, Scenes.ofNetwork(situation), "alert() = -2", "rows = 0 0");
    }
    Script.end();
  }
}
