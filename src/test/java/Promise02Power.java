/** Promise 2: power. */
public final class Promise02Power {
  private static final String[] ON = {"lost", "updating", "registered", "asking",
      "call 1", "call 2", "call 3", "call 4", "call 5", "call 6"};

  public static void main(String[] args) {
    Script.run("on", Scenes.fresh(), "power(false) = -2", "rows = 0 0", "power(true) = 1", "mobile = 1 0 0 0",
        "rows = 0 0", "power(true) = -2", "mobile = 1 0 0 0");
    for (String situation : ON) {
      offFrom(situation);
    }
    Script.run("the area stays until it is on again", Scenes.registered(), "power(false) = 1", "mobile = 0 0 0 770",
        "network = 0 0 0 770", "power(true) = 1", "mobile = 1 0 0 0", "network = 0 0 0 770");
    Script.run("off without radio", Scenes.registered(), "radio(false) = 1", "power(false) = 1", "rows = 0 0",
        "mobile = 0 0 0 770", "network = 0 0 0 770", "power(true) = 1", "mobile = 1 0 0 0");
    Script.run("the network hears of it", Scenes.active(), "power(false) = 1", "network = 3 4 0 770",
        "carry(0) = 1", "network = 0 0 0 -1", "digit(0) = -3");
    Script.end();
  }

  private static void offFrom(String situation) {
    MobileCall x = Scenes.ofMobile(situation);
    Script.run("off when " + situation, x, "power(true) = -2", "power(false) = 1", "told(0) = 0", "told(1) = 0",
        "told(2) = 0", "rows = 1 0", "up 0 = 05 01", "power(false) = -2", "rows = 1 0");
  }
}
