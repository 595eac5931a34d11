/** Promise 18: digit. */
public final class Promise18Digit {
  public static void main(String[] args) {
    Script.run("before the call is set up", Scenes.setUp(), "digit(0) = -3", "carry(0) = 5", "digit(0) = 4");
    for (int call = 1; call <= 6; call++) {
      Script.run("when call " + call, Scenes.ofNetwork("call " + call), "digit(0) = 4", "digit(1) = 7",
          "digit(2) = 1", "digit(3) = 1", "digit(4) = -3", "digit(-1) = -3", "digit(8) = -3",
          "digit(2147483647) = -3", "digit(-2147483648) = -3");
    }
    Script.run("no call any more", Scenes.networkReleasing(), "digit(0) = 4", "carry(1) = 45", "carry(0) = 42",
        "digit(0) = -3");
    Script.run("eight digits", Scenes.registered(), "dial(10203040, 8) = 1", "carry(0) = 36", "carry(1) = 18",
        "carry(0) = 20", "carry(1) = 33", "carry(0) = 5", "digit(0) = 1", "digit(1) = 0", "digit(2) = 2",
        "digit(6) = 4", "digit(7) = 0", "digit(8) = -3");
    Script.run("bytes that are no digits", Scenes.emptied(Scenes.setUp()), "forge up 03 05 5e 04 ff 0a 00 80",
        "carry(0) = 5", "digit(0) = 255", "digit(1) = 10", "digit(2) = 0", "digit(3) = 128", "digit(4) = -3");
    Script.run("a spoilt digit", Scenes.setUp(), "spoil(0, 4, 255) = 251", "carry(0) = 5", "digit(0) = 251");
    Script.run("a shorter number after a longer one", Scenes.networkReleasing(), "carry(1) = 45", "carry(0) = 42",
        "dial(5, 1) = 1", "carry(0) = 36", "carry(1) = 18", "carry(0) = 20", "carry(1) = 33", "carry(0) = 5",
        "digit(0) = 5", "digit(1) = -3");
    Script.run("a second SET UP changes nothing", Scenes.onItsWay(), "forge up 03 05 5e 01 09", "carry(0) = 1005",
        "digit(0) = 4");
    Script.end();
  }
}
