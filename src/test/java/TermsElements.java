/** Terms: when a message is GOOD, and what it is WITH. */
public final class TermsElements {
  public static void main(String[] args) {
    for (String bytes : new String[] {"05 11 00", "05 11 09 01", "05 11 09 02 00", "05 11 09 ff", "05 11 09 00 07",
        "05 11 09 03 00 00", "05 11 09 00 09 01", "05 11 09 04 00 00 00"}) {
      mobile("lost", bytes, 1017);
    }
    for (String bytes : new String[] {"05 11", "05 11 09 00", "05 11 09 01 00", "05 11 09 04 00 00 00 00",
        "05 11 09 00 09 00 09 00", "05 11 09 01 ff 09 01 ff", "05 11 11 02 05 11", "05 11 00 00"}) {
      mobile("lost", bytes, 17);
    }
    lengths();
    firstOfATag();
    spoiltNumber();
    Script.end();
  }

  private static void lengths() {
    mobile("updating", "05 02 13 01 01", 1002);
    mobile("updating", "05 02 13 03 01 02 03", 1002);
    mobile("updating", "05 02 13 00", 1002);
    mobile("updating", "05 02 14 02 00 01", 1002);
    mobile("updating", "05 04 08 00", 1004);
    mobile("updating", "05 04 08 02 00 01", 1004);
    mobile("updating", "05 12 21 03 00 00 01", 1018);
    mobile("updating", "05 12 22 04 00 00 00 01", 1018);
    mobile("asking", "05 22 08 00", 1034);
    mobile("asking", "05 22 13 01 00", 1034);
    mobile("call 4", "03 25 08 00", 1037);
    mobile("call 4", "03 25 08 02 00 01", 1037);
    network("idle", "05 08 13 01 01", 1008);
    network("idle", "05 08 13 03 01 02 03", 1008);
    network("asked update", "05 14 22 03 00 00 00", 1020);
    network("asked update", "05 14 21 04 00 00 00 00", 1020);
    network("call 4", "03 25 08 02 00 01", 1037);
    network("call 0", "03 05 5e 00", 1005);
    network("call 0", "03 05 5d 01 01", 1005);
    network("call 0", "03 05 5e 01 01", 5);
    network("call 0", "03 05 5e 04 01 02 03 04", 5);
  }

  private static void firstOfATag() {
    Script.run("another element before it", Scenes.ofMobile("updating"), "forge down 05 02 09 00 13 02 01 00",
        "carry(1) = 2", "mobile = 3 0 0 256");
    Script.run("another element behind it", Scenes.ofMobile("updating"), "forge down 05 02 13 02 01 00 09 00",
        "carry(1) = 2", "mobile = 3 0 0 256");
    Script.run("the first of two", Scenes.ofMobile("updating"), "forge down 05 04 08 01 01 08 01 02",
        "carry(1) = 4", "causes = 1 -1");
    Script.run("a tag among another element's bytes", Scenes.ofMobile("updating"),
        "forge down 05 04 09 01 08 08 01 02", "carry(1) = 4", "causes = 2 -1");
    Script.run("the first one is of another length", Scenes.ofMobile("updating"),
        "forge down 05 02 13 00 13 02 01 00", "carry(1) = 1002", "mobile = 2 0 20 0");
    Script.run("a second one of another length", Scenes.ofNetwork("idle"), "forge up 05 08 13 02 01 00 13 00",
        "carry(0) = 8", "network = 1 0 12 -1");
    Script.run("the first number", Scenes.ofNetwork("call 0"), "forge up 03 05 5e 01 07 5e 01 08", "carry(0) = 5",
        "digit(0) = 7", "digit(1) = -3");
  }

  private static void spoiltNumber() {
    Script.run("a number cut in two elements", Scenes.setUp(), "spoil(0, 3, 6) = 2", "carry(0) = 1005",
        "network = 3 0 0 770");
    Script.run("a number cut so that it is good", Scenes.registered(), "dial(12345600, 8) = 1", "carry(0) = 36",
        "carry(1) = 18", "carry(0) = 20", "carry(1) = 33", "spoil(0, 3, 14) = 6",
        "up 0 = 03 05 5e 06 01 02 03 04 05 06 00 00", "carry(0) = 5", "digit(5) = 6", "digit(6) = -3");
    Script.run("a spoilt tag", Scenes.setUp(), "spoil(0, 2, 1) = 95", "carry(0) = 1005");
  }

  private static void mobile(String situation, String bytes, int answer) {
    MobileCall x = Scenes.ofMobile(situation);
    Script.run(situation + ", " + bytes, x, "forge down " + bytes, "carry(1) = " + answer,
        "left = " + (answer < 1000 ? 0 : 1));
  }

  private static void network(String situation, String bytes, int answer) {
    MobileCall x = Scenes.ofNetwork(situation);
    Script.run(situation + ", " + bytes, x, "forge up " + bytes, "carry(0) = " + answer,
        "left = " + (answer < 1000 ? 0 : 1));
  }
}
