/** Promise 6: alert. */
public final class Promise06Alert {
  public static void main(String[] args) {
    Script.run("'with call ON ITS WAY'", Scenes.onItsWay(), "alert() = 1", "network = 3 2 0 770", "rows = 0 1",
        "down 0 = 03 01", "refused alert() = -2", "carry(1) = 1", "mobile = 5 3 0 770", "left = 0");
    for (String situation : new String[] {"idle", "idle, area", "asked update", "asked service", "call 0",
        "call 2", "call 3", "call 4", "call 5", "call 6"}) {
      Script.run("'NOT_SO' when " + situation, Scenes.ofNetwork(situation), "refused alert() = -2");
    }
    Script.run("the mobile's call does not count", Scenes.carry(Scenes.setUp(), 0), "mobile = 5 1 30 770",
        "alert() = 1", "network = 3 2 0 770", "rows = 0 2", "down 1 = 03 01");
    Script.end();
  }
}
