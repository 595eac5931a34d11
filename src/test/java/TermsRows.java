/** Terms: a row takes at most 8 messages; what is sent to a full one is gone, and the rest happens all the same. */
public final class TermsRows {
  public static void main(String[] args) {
    Script.run("UP is full", full(Scenes.lost(), 0), "update(5) = 1", "mobile = 2 0 20 0", "rows = 8 0",
        "up 7 = 05 00", "lose(0) = 0", "up 6 = 05 00", "up 7 = none");
    Script.run("UP is full, off", full(Scenes.lost(), 0), "power(false) = 1", "mobile = 0 0 0 0", "rows = 8 0");
    Script.run("UP is full, dial", full(Scenes.registered(), 0), "dial(1, 1) = 1", "mobile = 4 0 15 770",
        "rows = 8 0");
    Script.run("UP is full, answer to a challenge", full(Scenes.askedUpdate(), 0), "carry(1) = 18", "rows = 8 0",
        "mobile = 2 0 20 0");
    Script.run("UP is full, set up", full(Scenes.ofMobile("asking"), 0), "forge down 05 21", "carry(1) = 33",
        "mobile = 5 1 30 770", "rows = 8 0");
    Script.run("DOWN is full", full(Scenes.updating(), 1), "carry(0) = 8", "network = 1 0 12 -1", "rows = 0 8",
        "down 7 = 05 00");
    Script.run("DOWN is full, alert, answer, clear", full(Scenes.onItsWay(), 1), "alert() = 1", "answer() = 1",
        "clear(1) = 1", "network = 3 5 30 770", "rows = 0 8");
    Script.run("DOWN is full, a timer", full(Scenes.ofNetwork("call 3"), 1), "tick(10) = 1", "network = 3 5 30 770",
        "rows = 0 8", "down 7 = 05 00");
    Script.run("a place that is free again", full(Scenes.lost(), 0), "lose(0) = 0", "update(5) = 1", "rows = 8 0",
        "up 7 = 05 08 13 02 00 05");
    Script.end();
  }

  private static MobileCall full(MobileCall x, int way) {
    for (int k = 0; k < 8; k++) {
      x.forge(way, 0x0500, 2);
    }
    for (int k = 0; k < 7 && x.byteOf(way, 0, 1) != 0; k++) {
      x.lose(way);
      x.forge(way, 0x0500, 2);
    }
    return x;
  }
}
