/** Terms: when a message is GOOD, and what it is WITH. */
public final class TermsElements {
  public static void main(String[] args) {
    good();
    with(1, "updating", "05 02", 0x13, 2);
    with(1, "updating", "05 04", 0x08, 1);
    with(1, "updating", "05 12", 0x21, 4);
    with(1, "asking", "05 12", 0x21, 4);
    with(1, "asking", "05 22", 0x08, 1);
    for (int call = 1; call <= 5; call++) {
      with(1, "call " + call, "03 25", 0x08, 1);
      with(0, "call " + call, "03 25", 0x08, 1);
    }
    with(0, "idle", "05 08", 0x13, 2);
    with(0, "idle, area", "05 08", 0x13, 2);
    with(0, "asked update", "05 14", 0x22, 4);
    with(0, "asked service", "05 14", 0x22, 4);
    theFirstOne();
    highestFirst();
    number();
    longAnswers();
    Script.end();
  }

  /** EXPELLED and DETACH are with no element, so that each of these is LEFT just when it isn't GOOD. */
  private static void good() {
    for (String elements : new String[] {"", " 09 00", " 09 01 00", " 09 02 00 00", " 09 03 00 00 00",
        " 09 04 00 00 00 00", " 09 00 09 00", " 09 00 09 00 09 00", " 09 00 09 01 00", " 09 01 00 09 00",
        " 09 01 ff 09 01 ff", " 11 02 05 11", " 00 00", " 00 01 00", " ff 00", " ff 01 ff"}) {
      taken(1, "lost", "05 11" + elements);
      taken(0, "idle", "05 01" + elements);
    }
    for (String elements : new String[] {" 00", " 09", " 09 01", " 09 02 00", " 09 02", " 09 03 00 00",
        " 09 05 00 00 00 00", " 09 03 00 00 00 00", " 09 ff", " 09 ff 00 00 00 00", " 09 80 00", " 09 00 07",
        " 09 00 09 01", " 09 00 09 ff", " 09 01 00 00", " 09 01 00 09", " 09 00 09 00 09", " 09 00 09 00 09 01",
        " 09 00 09 02 00", " 09 02 00 00 00"}) {
      left(1, "lost", "05 11" + elements);
      left(0, "idle", "05 01" + elements);
    }
    inTwelveBytes("05 01 09 00 09 00 09 00 09 00 09 00", 1);
    inTwelveBytes("05 01 09 00 09 00 09 00 09 00 09 01", 1001);
    inTwelveBytes("05 01 09 00 09 00 09 00 09 01 09 00", 1001);
    inTwelveBytes("05 01 09 08 00 00 00 00 00 00 00 00", 1);
    inTwelveBytes("05 01 09 07 00 00 00 00 00 00 00 00", 1001);
    inTwelveBytes("05 01 09 09 00 00 00 00 00 00 00 00", 1001);
    inTwelveBytes("05 01 09 06 00 00 00 00 00 00 09 00", 1);
    inTwelveBytes("05 01 09 ff ff ff ff ff ff ff ff ff", 1001);
  }

  private static void inTwelveBytes(String bytes, int answer) {
    MobileCall x = Scenes.rewritten(Scenes.longest(), bytes);
    Script.run("twelve bytes", x, "up 0 = " + bytes, "carry(0) = " + answer, "rows = 0 0");
  }

  /** A message that is told in a situation with one element: all that is not just that element leaves it. */
  private static void with(int way, String situation, String head, int tag, int size) {
    String right = element(tag, size);
    taken(way, situation, head + right);
    left(way, situation, head);
    for (int other : new int[] {tag - 1, tag + 1, tag ^ 0x80, 0, 255}) {
      left(way, situation, head + element(other, size));
    }
    for (int length = 0; length <= 4; length++) {
      if (length != size) {
        left(way, situation, head + element(tag, length));
      }
    }
    left(way, situation, head + right.substring(0, right.length() - 3));
    leftBehindALongerOne(way, situation, head, right);
    if (size < 4) {
      left(way, situation, head + right + " 00");
      taken(way, situation, head + right + " 09 00");
      taken(way, situation, head + " 09 00" + right);
      taken(way, situation, head + right + element(tag, 0));
      left(way, situation, head + element(tag, 0) + right);
      left(way, situation, head + right + " 09 01");
    }
    if (size == 1) {
      taken(way, situation, head + right + right);
      taken(way, situation, head + " 09 01" + String.format(" %02x", tag) + right);
      left(way, situation, head + element(9, 3) + String.format(" %02x", tag));
    }
  }

  /** Should the places of messages be used again, nothing of a longer one is left in a shorter one. */
  private static void leftBehindALongerOne(int way, String situation, String head, String element) {
    MobileCall x = way == 1 ? Scenes.ofMobile(situation) : Scenes.ofNetwork(situation);
    String row = way == 1 ? "down " : "up ";
    int type = Integer.parseInt(head.substring(3), 16);
    for (int k = 0; k < 12; k++) {
      Script.run("a longer one before", x, "forge " + row + head + element, "lose(" + way + ") = " + type);
    }
    Script.run(situation + ", " + head + ", a longer one before", x, "forge " + row + head,
        "carry(" + way + ") = " + (1000 + type), "left = 1");
  }

  private static String element(int tag, int length) {
    return String.format(" %02x %02x", tag, length) + " 01".repeat(length);
  }

  private static void theFirstOne() {
    Script.run("'the first one with that tag', cause", Scenes.ofMobile("updating"),
        "forge down 05 04 08 01 01 08 01 02", "carry(1) = 4", "causes = 1 -1");
    Script.run("'the first one with that tag', behind another element", Scenes.ofMobile("updating"),
        "forge down 05 04 09 01 08 08 01 02", "carry(1) = 4", "causes = 2 -1");
    Script.run("'the first one with that tag', area behind another element", Scenes.ofMobile("updating"),
        "forge down 05 02 09 00 13 02 01 00", "carry(1) = 2", "mobile = 3 0 0 256");
    Script.run("'the first one with that tag', area before another element", Scenes.ofMobile("updating"),
        "forge down 05 02 13 02 01 00 09 00", "carry(1) = 2", "mobile = 3 0 0 256");
    Script.run("'of just that length', area", Scenes.ofMobile("updating"), "forge down 05 02 13 00 13 02 01 00",
        "carry(1) = 1002", "mobile = 2 0 20 0");
    Script.run("'the first one with that tag', number", Scenes.ofNetwork("call 0"),
        "forge up 03 05 5e 01 07 5e 01 08", "carry(0) = 5", "digit(0) = 7", "digit(1) = -3");
    Script.run("'the first one with that tag', a longer number behind it", Scenes.ofNetwork("call 0"),
        "forge up 03 05 5e 00 5e 02 07 08", "carry(0) = 1005", "network = 3 0 0 770");
    Script.run("'the first one with that tag', number behind another element",
        Scenes.rewritten(Scenes.longest(), "03 05 09 02 5e 01 5e 02 07 08 09 00"), "carry(0) = 5", "digit(0) = 7",
        "digit(1) = 8", "digit(2) = -3");
  }

  private static void highestFirst() {
    Script.run("'the highest one first', area down", Scenes.ofMobile("updating"), "forge down 05 02 13 02 01 fe",
        "carry(1) = 2", "mobile = 3 0 0 510");
    Script.run("'the highest one first', area down, the highest bit", Scenes.ofMobile("updating"),
        "forge down 05 02 13 02 80 00", "carry(1) = 2", "mobile = 3 0 0 32768");
    Script.run("'the highest one first', the greatest area down", Scenes.ofMobile("updating"),
        "forge down 05 02 13 02 ff ff", "carry(1) = 2", "mobile = 3 0 0 65535");
    Script.run("'the highest one first', area up", Scenes.ofNetwork("idle"), "forge up 05 08 13 02 fe 01",
        "carry(0) = 8", "forge up 05 14 22 04 " + Answers.hex(0x41c67ea6, 5), "carry(0) = 20",
        "network = 0 0 0 65025", "lose(1) = 18", "down 0 = 05 02 13 02 fe 01");
    Script.run("'the highest one first', challenge and answer", Scenes.ofMobile("updating"),
        "forge down 05 12 21 04 fe dc ba 98", "carry(1) = 18", "up 0 = 05 14 22 04 " + Answers.hex(0xfedcba98, 5));
  }

  private static void number() {
    left(0, "call 0", "03 05");
    left(0, "call 0", "03 05 5e 00");
    left(0, "call 0", "03 05 5d 01 01");
    left(0, "call 0", "03 05 5f 01 01");
    left(0, "call 0", "03 05 5e 01");
    left(0, "call 0", "03 05 5e 02 01");
    left(0, "call 0", "03 05 5e 01 01 01");
    leftBehindALongerOne(0, "call 0", "03 05", element(0x5e, 4));
    for (int length = 1; length <= 4; length++) {
      taken(0, "call 0", "03 05" + element(0x5e, length));
    }
    for (int length = 1; length <= 8; length++) {
      MobileCall x = Scenes.registered();
      x.dial(87654321, length);
      Script.run("'1 .. 8 bytes', " + length, Scenes.carry(x, 0, 1, 0, 1), "byteOf(0, 0, 3) = " + length,
          "carry(0) = 5", "digit(" + (length - 1) + ") = 1", "digit(" + length + ") = -3", "digit(0) = " + length);
    }
    Script.run("a number cut in two elements", Scenes.setUp(), "spoil(0, 3, 6) = 2", "carry(0) = 1005",
        "network = 3 0 0 770");
    Script.run("a number cut so that it is good", Scenes.rewritten(Scenes.longest(),
        "03 05 5e 06 01 02 03 04 05 06 00 00"), "carry(0) = 5", "digit(5) = 6", "digit(6) = -3");
    Script.run("a number one too long", Scenes.longest(), "spoil(0, 3, 1) = 9", "carry(0) = 1005");
    Script.run("a number one too short", Scenes.longest(), "spoil(0, 3, 15) = 7", "carry(0) = 1005");
    Script.run("a number of no bytes", Scenes.rewritten(Scenes.longest(), "03 05 5e 00 09 06 03 04 05 06 00 00"),
        "carry(0) = 1005", "network = 3 0 0 770");
  }

  /** No forged message is long enough for an ANSWER and more, but a spoilt SET UP is. */
  private static void longAnswers() {
    String right = "22 04 " + Answers.hex(0x967eb0e7, 5);
    String wrong = "22 04 " + Answers.hex(0x967eb0e6, 5);
    longAnswer("05 14 " + right + " 09 02 00 00", "20", "3 0 0 770");
    longAnswer("05 14 09 02 00 00 " + right, "20", "3 0 0 770");
    longAnswer("05 14 09 02 22 04 " + right, "20", "3 0 0 770");
    longAnswer("05 14 " + right + " 22 02 00 00", "20", "3 0 0 770");
    longAnswer("05 14 " + right + " 22 00 09 00", "20", "3 0 0 770");
    longAnswer("05 14 " + wrong + " 09 02 00 00", "20", "0 0 0 -1");
    longAnswer("05 14 22 02 00 00 " + right, "1020", "2 0 12 770");
    longAnswer("05 14 22 00 22 00 " + right, "1020", "2 0 12 770");
    longAnswer("05 14 22 05 " + Answers.hex(0x967eb0e7, 5) + " 00 09 01 00", "1020", "2 0 12 770");
    longAnswer("05 14 22 08 00 00 00 00 " + Answers.hex(0x967eb0e7, 5), "1020", "2 0 12 770");
    longAnswer("05 14 09 08 00 00 " + right, "1020", "2 0 12 770");
    longAnswer("05 14 " + right + " 09 03 00 00", "1020", "2 0 12 770");
    longAnswer("05 14 " + right + " 09 01 00 00", "1020", "2 0 12 770");
  }

  private static void longAnswer(String bytes, String answer, String network) {
    MobileCall x = Scenes.registered();
    x.dial(12345678, 8);
    x.carry(0);
    x.lose(1);
    Script.run("a long answer", x, "network = 2 0 12 770", "forge down 05 21", "carry(1) = 33");
    Script.run("a long answer, " + bytes, Scenes.rewritten(x, bytes), "up 0 = " + bytes, "carry(0) = " + answer,
        "network = " + network);
  }

  private static void taken(int way, String situation, String bytes) {
    comes(way, situation, bytes, 0);
  }

  private static void left(int way, String situation, String bytes) {
    comes(way, situation, bytes, 1);
  }

  private static void comes(int way, String situation, String bytes, int left) {
    MobileCall x = way == 1 ? Scenes.ofMobile(situation) : Scenes.ofNetwork(situation);
    int type = Integer.parseInt(bytes.substring(3, 5), 16);
    Script.run(situation + ", " + bytes, x, "forge " + (way == 1 ? "down " : "up ") + bytes,
        "carry(" + way + ") = " + (type + 1000 * left), "left = " + left);
  }
}
