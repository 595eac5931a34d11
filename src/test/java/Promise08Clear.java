/** Promise 8: clear. */
public final class Promise08Clear {
  private static final int[] WRONG = {-1, 256, -256, 263, Integer.MIN_VALUE, Integer.MAX_VALUE};

  public static void main(String[] args) {
    for (String situation : new String[] {"call 1", "call 2", "call 3", "call 4"}) {
      Script.run("'with call 1 .. 4', " + situation, Scenes.ofNetwork(situation), "clear(7) = 1",
          "network = 3 5 30 770", "rows = 0 1", "down 0 = 03 25 08 01 07", "refused clear(7) = -2");
      wrongCauses(situation);
    }
    for (String situation : new String[] {"idle", "idle, area", "asked update", "asked service", "call 0",
        "call 5", "call 6"}) {
      Script.run("'NOT_SO' when " + situation, Scenes.ofNetwork(situation), "refused clear(0) = -2",
          "refused clear(255) = -2");
      wrongCauses(situation);
    }
    cause(0, "00");
    cause(1, "01");
    cause(254, "fe");
    cause(255, "ff");
    Script.run("the whole way", Scenes.active(), "clear(7) = 1", "carry(1) = 37", "carry(0) = 45",
        "network = 0 0 0 770", "carry(1) = 42", "mobile = 3 0 0 770", "rows = 0 0", "left = 0");
    Script.end();
  }

  private static void cause(int cause, String bytes) {
    Script.run("'that cause (0 .. 255)'", Scenes.active(), "clear(" + cause + ") = 1", "down 0 = 03 25 08 01 " + bytes,
        "causes = -1 -1", "carry(1) = 37", "causes = " + cause + " -1", "mobile = 5 6 30 770", "up 0 = 03 2d");
  }

  private static void wrongCauses(String situation) {
    for (int cause : WRONG) {
      Script.run("'BAD' when " + situation, Scenes.ofNetwork(situation), "refused clear(" + cause + ") = -1");
    }
  }
}
