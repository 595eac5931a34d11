/** Promise 5: hang. */
public final class Promise05Hang {
  public static void main(String[] args) {
    for (String situation : new String[] {"call 1", "call 2", "call 3", "call 4"}) {
      Script.run("'with call 1 .. 4', " + situation, Scenes.ofMobile(situation), "hang() = 1", "mobile = 5 5 30 770",
          "rows = 1 0", "up 0 = 03 25 08 01 10", "refused hang() = -2");
    }
    for (String situation : new String[] {"off", "lost", "updating", "registered", "asking", "call 5", "call 6"}) {
      Script.run("'NOT_SO' when " + situation, Scenes.ofMobile(situation), "refused hang() = -2");
    }
    Script.run("'NOT_SO' in the middle of a time", Scenes.mobileEnding(), "tick(7) = 0", "refused hang() = -2",
        "mobile = 5 5 23 770");
    Script.run("the whole way", Scenes.active(), "hang() = 1", "carry(0) = 37", "causes = -1 16",
        "network = 3 6 30 770", "carry(1) = 45", "mobile = 3 0 0 770", "carry(0) = 42", "network = 0 0 0 770",
        "rows = 0 0", "left = 0", "refused hang() = -2");
    Script.end();
  }
}
