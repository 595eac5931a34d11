/** Promise 2: power. */
public final class Promise02Power {
  private static final String[] ON = {"lost", "updating", "registered", "asking",
      "call 1", "call 2", "call 3", "call 4", "call 5", "call 6"};

  public static void main(String[] args) {
    Script.run("'switched on'", Scenes.fresh(), "power(true) = 1", "mobile = 1 0 0 0", "rows = 0 0");
    Script.run("'NOT_SO when it was' off", Scenes.fresh(), "refused power(false) = -2");
    for (String situation : ON) {
      offFrom(situation);
    }
    Script.run("'NOT_SO when it was' on, in the middle of a time", Scenes.updating(), "tick(3) = 0",
        "refused power(true) = -2", "mobile = 2 0 17 0");
    Script.run("'what it knew of its area is 0' on, not off", Scenes.registered(), "power(false) = 1",
        "mobile = 0 0 0 770", "network = 0 0 0 770", "power(true) = 1", "mobile = 1 0 0 0", "network = 0 0 0 770");
    Script.run("'DETACH is sent' behind what is there", Scenes.updating(), "power(false) = 1", "rows = 2 0",
        "up 0 = 05 08 13 02 03 02", "up 1 = 05 01", "power(true) = 1", "rows = 2 0");
    Script.run("'DETACH is sent' without radio", Scenes.registered(), "radio(false) = 1", "power(false) = 1",
        "rows = 0 0", "mobile = 0 0 0 770", "network = 0 0 0 770", "refused power(false) = -2", "power(true) = 1",
        "mobile = 1 0 0 0");
    Script.run("the network hears of it", Scenes.active(), "power(false) = 1", "network = 3 4 0 770",
        "carry(0) = 1", "network = 0 0 0 -1", "digit(0) = -3");
    Script.run("off and on many times", Scenes.fresh(), "power(true) = 1", "power(false) = 1", "power(true) = 1",
        "power(false) = 1", "rows = 2 0", "power(true) = 1", "update(1) = 1", "mobile = 2 0 20 0", "rows = 3 0");
    Script.end();
  }

  private static void offFrom(String situation) {
    Script.run("'switched off' when " + situation, Scenes.ofMobile(situation), "refused power(true) = -2",
        "power(false) = 1", "told(0) = 0", "told(1) = 0", "told(2) = 0", "rows = 1 0", "up 0 = 05 01",
        "refused power(false) = -2");
  }
}
