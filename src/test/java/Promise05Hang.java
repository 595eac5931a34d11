/** Promise 5: hang. */
public final class Promise05Hang {
  public static void main(String[] args) {
    for (String situation : new String[] {"call 1", "call 2", "call 3", "call 4"}) {
      Script.run("when " + situation, Scenes.ofMobile(situation), "hang() = 1", "mobile = 5 5 30 770",
          "rows = 1 0", "up 0 = 03 25 08 01 10", "hang() = -2", "rows = 1 0");
    }
    for (String situation : new String[] {"off", "lost", "updating", "registered", "asking", "call 5", "call 6"}) {
      Script.run("when " + situation, Scenes.ofMobile(situation), "hang() = -2", "rows = 0 0");
    }
    Script.run("the whole way", Scenes.active(), "hang() = 1", "carry(0) = 37", "causes = -1 16",
        "network = 3 6 30 770", "carry(1) = 45", "mobile = 3 0 0 770", "carry(0) = 42", "network = 0 0 0 770",
        "rows = 0 0", "left = 0");
    Script.end();
  }
}
