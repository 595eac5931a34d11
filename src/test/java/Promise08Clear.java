/** Promise 8: clear. */
public final class Promise08Clear {
  public static void main(String[] args) {
    for (String situation : new String[] {"call 1", "call 2", "call 3", "call 4"}) {
      Script.run("when " + situation, Scenes.ofNetwork(situation), "clear(256) = -1", "clear(-1) = -1",
          "clear(7) = 1", "network = 3 5 30 770", "rows = 0 1", "down 0 = 03 25 08 01 07", "clear(7) = -2",
          "rows = 0 1");
    }
    for (String situation : new String[] {"idle", "idle, area", "asked update", "asked service", "call 0",
        "call 5", "call 6"}) {
      Script.run("when " + situation, Scenes.ofNetwork(situation), "clear(256) = -1", "clear(-1) = -1",
          "clear(7) = -2", "rows = 0 0");
    }
    Script.run("the lowest cause", Scenes.active(), "clear(0) = 1", "carry(1) = 37", "causes = 0 -1",
        "mobile = 5 6 30 770", "up 0 = 03 2d");
    Script.run("the highest cause", Scenes.active(), "clear(255) = 1", "carry(1) = 37", "causes = 255 -1");
    Script.run("the whole way", Scenes.active(), "clear(7) = 1", "carry(1) = 37", "carry(0) = 45",
        "network = 0 0 0 770", "carry(1) = 42", "mobile = 3 0 0 770", "rows = 0 0", "left = 0");
    Script.end();
  }
}
