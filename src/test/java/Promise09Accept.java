/** Promise 9: accept. */
public final class Promise09Accept {
  public static void main(String[] args) {
    updates(0, false);
    updates(1, true);
    updates(2, false);
    updates(3, true);
    updates(-1, true);
    updates(4, false);
    services(0, false);
    services(1, false);
    services(2, true);
    services(3, true);
    services(-1, true);
    services(-4, false);
    Script.run("what counts is the time of the answer", Scenes.askedUpdate(), "accept(0) = 1", "carry(1) = 18",
        "accept(1) = 1", "carry(0) = 20", "carry(1) = 2");
    Script.end();
  }

  private static void updates(int bits, boolean accepted) {
    Script.run("updates with " + bits, Scenes.askedUpdate(), "accept(" + bits + ") = 1", "carry(1) = 18",
        "carry(0) = 20", "down 0 = " + (accepted ? "05 02 13 02 03 02" : "05 04 08 01 0b"),
        "network = 0 0 0 " + (accepted ? 770 : -1), "carry(1) = " + (accepted ? 2 : 4),
        "mobile = " + (accepted ? "3 0 0 770" : "1 0 0 0"), "causes = " + (accepted ? "-1 -1" : "11 -1"));
  }

  private static void services(int bits, boolean accepted) {
    Script.run("services with " + bits, Scenes.askedService(), "accept(" + bits + ") = 1", "carry(1) = 18",
        "carry(0) = 20", "down 0 = " + (accepted ? "05 21" : "05 22 08 01 20"),
        "network = " + (accepted ? "3 0 0 770" : "0 0 0 770"), "carry(1) = " + (accepted ? 33 : 34),
        "mobile = " + (accepted ? "5 1 30 770" : "3 0 0 770"), "causes = " + (accepted ? "-1 -1" : "32 -1"));
  }
}
