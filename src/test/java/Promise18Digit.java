/** Promise 18: digit. */
public final class Promise18Digit {
  public static void main(String[] args) {
    Script.run("before the call is set up", Scenes.setUp(), "digit(0) = -3", "carry(0) = 5", "digit(0) = 4");
    for (int call = 1; call <= 6; call++) {
      Script.run("when call " + call, Scenes.ofNetwork("call " + call), "digit(0) = 4", "digit(1) = 7",
          "digit(2) = 1", "digit(3) = 1", "refused digit(4) = -3", "refused digit(-1) = -3");
    }
    for (int i : new int[] {-1, 4, 5, 7, 8, 9, 24, 256, Integer.MIN_VALUE, Integer.MAX_VALUE}) {
      Script.run("'NONE when it has none such'", Scenes.active(), "refused digit(" + i + ") = -3");
    }
    for (String situation : new String[] {"idle", "idle, area", "asked update", "asked service", "call 0"}) {
      Script.run("'or there is no call', " + situation, Scenes.ofNetwork(situation), "refused digit(0) = -3");
    }
    noCallAnyMore();
    numbers();
    Script.end();
  }

  private static void noCallAnyMore() {
    Script.run("'or there is no call', RELEASED", Scenes.networkReleasing(), "digit(0) = 4", "carry(1) = 45",
        "carry(0) = 42", "digit(0) = -3");
    Script.run("'or there is no call', DETACH", Scenes.active(), "forge up 05 01", "carry(0) = 1", "digit(0) = -3");
    Script.run("'or there is no call', no radio", Scenes.active(), "radio(false) = 1", "digit(0) = -3");
    Script.run("'or there is no call', CONNECTED once more", Scenes.networkReleasing(), "carry(1) = 45",
        "carry(0) = 42", "dial(5, 1) = 1", "carry(0) = 36", "digit(0) = -3", "carry(1) = 18", "carry(0) = 20",
        "network = 3 0 0 770", "digit(0) = -3", "carry(1) = 33", "digit(0) = -3", "carry(0) = 5", "digit(0) = 5",
        "digit(1) = -3");
  }

  private static void numbers() {
    Script.run("one digit", Scenes.ofNetwork("call 0"), "forge up 03 05 5e 01 09", "carry(0) = 5", "digit(0) = 9",
        "digit(1) = -3");
    Script.run("eight digits", Scenes.carry(Scenes.longest(), 0), "digit(0) = 1", "digit(1) = 2", "digit(6) = 7",
        "digit(7) = 8", "digit(8) = -3", "digit(-1) = -3");
    Script.run("'the network takes any'", Scenes.ofNetwork("call 0"), "forge up 03 05 5e 04 ff 0a 00 80",
        "carry(0) = 5", "digit(0) = 255", "digit(1) = 10", "digit(2) = 0", "digit(3) = 128", "digit(4) = -3");
    Script.run("a spoilt digit", Scenes.setUp(), "spoil(0, 4, 255) = 251", "carry(0) = 5", "digit(0) = 251");
    Script.run("a second SET UP changes nothing", Scenes.onItsWay(), "forge up 03 05 5e 01 09", "carry(0) = 1005",
        "digit(0) = 4", "digit(1) = 7");
  }
}
