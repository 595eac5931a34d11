/** Terms: the row of challenges, and their answers with a key. */
public final class TermsChallenges {
  private static final int[] EDGES = {0, 1, -1, 5, 99, -7, Integer.MIN_VALUE, Integer.MAX_VALUE, 0x12345678};

  public static void main(String[] args) {
    for (int key : EDGES) {
      for (int seed : EDGES) {
        rowOfChallenges(key, seed);
        otherKey(key, seed);
      }
    }
    Script.run("a challenge that is gone counts", Scenes.emptied(Scenes.askedUpdate()), "tick(12) = 1",
        "forge up 05 08 13 02 00 01", "carry(0) = 8", "down 0 = 05 12 21 04 96 7e b0 e7");
    Script.run("a service of an unknown mobile takes none", Scenes.fresh(), "forge up 05 24", "carry(0) = 36",
        "lose(1) = 34", "forge up 05 08 13 02 00 01", "carry(0) = 8", "down 0 = 05 12 21 04 41 c6 7e a6");
    Script.end();
  }

  private static void rowOfChallenges(int key, int seed) {
    MobileCall x = new MobileCall(key, key, seed);
    String name = "key " + key + ", seed " + seed;
    x.power(true);
    int challenge = seed;
    for (int k = 0; k < 5; k++) {
      challenge = Answers.nextChallenge(challenge);
      Script.run(name, x, "update(" + k + ") = 1", "carry(0) = 8",
          "down 0 = 05 12 21 04 " + Answers.bytes(challenge), "carry(1) = 18",
          "up 0 = 05 14 22 04 " + Answers.hex(challenge, key), "carry(0) = 20", "carry(1) = 2");
    }
  }

  private static void otherKey(int key, int seed) {
    MobileCall x = new MobileCall(key, key ^ 0x10000, seed);
    Script.run("other key, " + key + ", seed " + seed, x, "power(true) = 1", "update(3) = 1", "carry(0) = 8",
        "carry(1) = 18", "up 0 = 05 14 22 04 " + Answers.hex(Answers.nextChallenge(seed), key), "carry(0) = 20",
        "network = 0 0 0 -1", "carry(1) = 17", "mobile = 1 0 0 0");
  }
}
