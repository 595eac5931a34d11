/** Terms: the row of challenges, and their answers with a key, both of 32 bits. */
public final class TermsChallenges {
  private static final int[] EDGES = {0, 1, -1, 5, 99, -7, Integer.MIN_VALUE, Integer.MAX_VALUE, 0x12345678};

  public static void main(String[] args) {
    for (int key : EDGES) {
      for (int seed : EDGES) {
        rowOfChallenges(key, seed);
        otherKey(key, seed);
      }
    }
    nextOnes(0, "00 00 30 39", "d3 dc 16 7e", "a7 04 27 df");
    nextOnes(1, "41 c6 7e a6", "96 7e b0 e7", "27 81 e4 94");
    nextOnes(-1, "be 39 e1 cc", "11 39 7c 15", "26 86 6b 2a");
    nextOnes(Integer.MIN_VALUE, "80 00 30 39", "53 dc 16 7e", "27 04 27 df");
    nextOnes(Integer.MAX_VALUE, "3e 39 e1 cc", "91 39 7c 15", "a6 86 6b 2a");
    answers();
    whichOnesCount();
    wrongAnswers();
    Script.end();
  }

  private static void rowOfChallenges(int key, int seed) {
    MobileCall x = new MobileCall(key, key, seed);
    String name = "key " + key + ", seed " + seed;
    x.power(true);
    int challenge = seed;
    for (int k = 0; k < 5; k++) {
      challenge = Answers.nextChallenge(challenge);
      Script.run(name, x, "update(" + k + ") = 1", "carry(0) = 8",
          "down 0 = 05 12 21 04 " + Answers.bytes(challenge), "carry(1) = 18",
          "up 0 = 05 14 22 04 " + Answers.hex(challenge, key), "carry(0) = 20", "carry(1) = 2");
    }
  }

  private static void otherKey(int key, int seed) {
    for (int bit = 0; bit < 32; bit++) {
      MobileCall x = new MobileCall(key, key ^ 1 << bit, seed);
      Script.run("other key, " + key + ", seed " + seed, x, "power(true) = 1", "update(3) = 1", "carry(0) = 8",
          "carry(1) = 18", "up 0 = 05 14 22 04 " + Answers.hex(Answers.nextChallenge(seed), key), "carry(0) = 20",
          "network = 0 0 0 -1", "carry(1) = 17", "mobile = 1 0 0 0");
    }
  }

  private static void nextOnes(int seed, String... challenges) {
    MobileCall x = new MobileCall(0, 0, seed);
    for (String challenge : challenges) {
      Script.run("'The next challenge', seed " + seed, x, "forge up 05 08 13 02 00 00", "carry(0) = 8",
          "down 0 = 05 12 21 04 " + challenge, "lose(1) = 18", "tick(12) = 1");
    }
  }

  private static void answers() {
    answer(0, "00 00 00 00", "00 00 00 00");
    answer(5, "00 00 00 05", "00 00 00 00");
    answer(-1, "ff ff ff ff", "00 00 00 00");
    answer(0, "00 00 00 01", "20 00 32 60");
    answer(1, "00 00 00 00", "20 00 32 60");
    answer(0, "80 00 00 00", "00 00 00 10");
    answer(Integer.MIN_VALUE, "00 00 00 00", "00 00 00 10");
    answer(0, "ff ff ff ff", "df ff cd bf");
    answer(-1, "00 00 00 00", "df ff cd bf");
    answer(0x9abcdef0, "12 34 56 78", "dd dd c3 0e");
  }

  private static void answer(int key, String challenge, String answer) {
    Script.run("'The ANSWER', key " + key, new MobileCall(key, ~key, 0), "power(true) = 1", "update(1) = 1",
        "lose(0) = 8", "forge down 05 12 21 04 " + challenge, "carry(1) = 18", "up 0 = 05 14 22 04 " + answer);
  }

  private static void whichOnesCount() {
    Script.run("a challenge that is lost counts", Scenes.emptied(Scenes.askedUpdate()), "tick(12) = 1",
        "forge up 05 08 13 02 00 01", "carry(0) = 8", "down 0 = 05 12 21 04 96 7e b0 e7");
    Script.run("a challenge that is sent to a full row counts", Scenes.filled(Scenes.updating(), 1, 8),
        "carry(0) = 8", "tick(12) = 1", "lose(1) = 0", "forge up 05 08 13 02 00 01", "carry(0) = 8",
        "down 7 = 05 12 21 04 96 7e b0 e7");
    Script.run("the answer to a challenge that was gone is right", Scenes.filled(Scenes.updating(), 1, 8),
        "carry(0) = 8", "forge up 05 14 22 04 " + Answers.hex(0x41c67ea6, 5), "carry(0) = 20",
        "network = 0 0 0 770");
    Script.run("a service of an unknown mobile takes none", Scenes.fresh(), "forge up 05 24", "carry(0) = 36",
        "lose(1) = 34", "forge up 05 08 13 02 00 01", "carry(0) = 8", "down 0 = 05 12 21 04 41 c6 7e a6");
    Script.run("an UPDATE that is LEFT takes none", Scenes.fresh(), "forge up 05 08 13 01 00", "carry(0) = 1008",
        "forge up 05 08 13 02 00 01", "carry(0) = 8", "down 0 = 05 12 21 04 41 c6 7e a6",
        "forge up 05 08 13 02 00 02", "carry(0) = 1008", "rows = 0 1", "tick(12) = 1",
        "forge up 05 08 13 02 00 02", "carry(0) = 8", "down 1 = 05 12 21 04 96 7e b0 e7");
  }

  private static void wrongAnswers() {
    int right = Answers.answer(0x41c67ea6, 5);
    for (int bit = 0; bit < 32; bit++) {
      Script.run("'if it is not the right one', bit " + bit, Scenes.ofNetwork("asked update"),
          "forge up 05 14 22 04 " + Answers.bytes(right ^ 1 << bit), "carry(0) = 20", "network = 0 0 0 -1",
          "down 0 = 05 11", "rows = 0 1");
    }
    Script.run("'the area is not known' after a wrong one for an update too", Scenes.registered(), "update(5) = 1",
        "carry(0) = 8", "network = 1 0 12 770", "forge up 05 14 22 04 00 00 00 00", "carry(0) = 20",
        "network = 0 0 0 -1");
    Script.run("the answer before is not the right one", Scenes.registered(), "update(5) = 1", "carry(0) = 8",
        "forge up 05 14 22 04 " + Answers.bytes(right), "carry(0) = 20", "network = 0 0 0 -1");
    Script.run("the right one comes too late", Scenes.carry(Scenes.askedUpdate(), 1), "tick(12) = 1",
        "carry(0) = 1020", "network = 0 0 0 -1");
    Script.run("the right one comes just in time", Scenes.carry(Scenes.askedUpdate(), 1), "tick(11) = 0",
        "carry(0) = 20", "network = 0 0 0 770");
    Script.run("the right one comes twice", Scenes.ofNetwork("asked update"), "forge up 05 14 22 04 "
        + Answers.bytes(right), "forge up 05 14 22 04 " + Answers.bytes(right), "carry(0) = 20", "carry(0) = 1020",
        "network = 0 0 0 770", "rows = 0 1");
  }
}
