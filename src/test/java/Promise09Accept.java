/** Promise 9: accept. */
public final class Promise09Accept {
  private static final int[] BITS = {0, 1, 2, 3, 4, 5, 6, 7, -1, -2, -3, -4, 65536, 65537, 65538, Integer.MIN_VALUE,
      Integer.MIN_VALUE + 1, Integer.MAX_VALUE, Integer.MAX_VALUE - 1};

  public static void main(String[] args) {
    for (int bits : BITS) {
      updates(bits, Math.floorMod(bits, 2) == 1);
      services(bits, Math.floorMod(bits, 4) >= 2);
    }
    Script.run("nothing else changes", Scenes.answered(), "refused accept(0) = 1", "refused accept(-1) = 1",
        "refused accept(3) = 1");
    Script.run("the time of the answer counts", Scenes.askedUpdate(), "accept(0) = 1", "carry(1) = 18",
        "accept(1) = 1", "carry(0) = 20", "carry(1) = 2");
    Script.run("it holds until the next one", Scenes.askedUpdate(), "accept(2) = 1", "radio(false) = 1",
        "radio(true) = 1", "update(1) = 1", "carry(0) = 8", "carry(1) = 18", "carry(0) = 20", "carry(1) = 4",
        "update(1) = 1", "carry(0) = 8", "carry(1) = 18", "carry(0) = 20", "carry(1) = 4");
    Script.run("a wrong answer is no question of it", new MobileCall(5, 6, 1), "accept(0) = 1", "power(true) = 1",
        "update(1) = 1", "carry(0) = 8", "carry(1) = 18", "carry(0) = 20", "carry(1) = 17");
    Script.run("a refused update leaves the area that was known", Scenes.registered(), "accept(0) = 1",
        "update(5) = 1", "carry(0) = 8", "carry(1) = 18", "carry(0) = 20", "network = 0 0 0 770", "carry(1) = 4",
        "mobile = 1 0 0 770");
    Script.end();
  }

  private static void updates(int bits, boolean accepted) {
    Script.run("'accepts updates' with " + bits, Scenes.askedUpdate(), "accept(" + bits + ") = 1", "carry(1) = 18",
        "carry(0) = 20", "down 0 = " + (accepted ? "05 02 13 02 03 02" : "05 04 08 01 0b"),
        "network = 0 0 0 " + (accepted ? 770 : -1), "carry(1) = " + (accepted ? 2 : 4),
        "mobile = " + (accepted ? "3 0 0 770" : "1 0 0 0"), "causes = " + (accepted ? "-1 -1" : "11 -1"));
  }

  private static void services(int bits, boolean accepted) {
    Script.run("'accepts services' with " + bits, Scenes.askedService(), "accept(" + bits + ") = 1", "carry(1) = 18",
        "carry(0) = 20", "down 0 = " + (accepted ? "05 21" : "05 22 08 01 20"),
        "network = " + (accepted ? "3 0 0 770" : "0 0 0 770"), "carry(1) = " + (accepted ? 33 : 34),
        "mobile = " + (accepted ? "5 1 30 770" : "3 0 0 770"), "causes = " + (accepted ? "-1 -1" : "32 -1"));
  }
}
