/** Promise 16: told. */
public final class Promise16Told {
  public static void main(String[] args) {
    Script.run("wrong numbers", Scenes.active(), "told(-1) = -1", "told(14) = -1", "told(2147483647) = -1",
        "told(-2147483648) = -1");
    Script.run("state by state", Scenes.setUp(), "told(0) = 5", "told(1) = 1", "told(2) = 30", "told(3) = 770",
        "told(4) = 3", "told(5) = 0", "told(6) = 0", "told(7) = 770", "told(8) = 1", "told(9) = 0", "told(10) = 0",
        "told(11) = 1", "told(12) = -1", "told(13) = -1");
    Script.run("each side for itself", Scenes.networkReleasing(), "told(0) = 5", "told(1) = 5", "told(2) = 30",
        "told(4) = 3", "told(5) = 6", "told(6) = 30", "told(8) = 0", "told(9) = 1", "told(12) = -1",
        "told(13) = 16");
    Script.run("the mobile's causes", Scenes.emptied(Scenes.updating()), "forge down 05 04 08 01 00",
        "carry(1) = 4", "causes = 0 -1", "update(1) = 1", "carry(0) = 8", "carry(1) = 18", "carry(0) = 20",
        "carry(1) = 2", "causes = 0 -1", "dial(1, 1) = 1", "forge down 05 22 08 01 ff", "carry(1) = 34",
        "causes = 255 -1");
    Script.run("the mobile's cause of an END", Scenes.mobileReleasing(), "causes = 7 -1", "power(false) = 1",
        "power(true) = 1", "causes = 7 -1");
    Script.run("the network's cause", Scenes.active(), "forge up 03 25 08 01 c8", "carry(0) = 37",
        "causes = -1 200", "radio(false) = 1", "causes = -1 200");
    Script.run("a LEFT message brings no cause", Scenes.mobileReleasing(), "forge down 03 25 08 01 09",
        "carry(1) = 1037", "causes = 7 -1", "left = 1", "forge down 05 04 08 01 09", "carry(1) = 1004",
        "forge down 05 22 08 01 09", "carry(1) = 1034", "causes = 7 -1", "left = 3");
    Script.run("LEFT of both rows is counted, lost ones are not", Scenes.lost(), "forge up 09 01", "forge down 09 01",
        "carry(0) = 1001", "carry(1) = 1001", "left = 2", "forge up 09 01", "lose(0) = 1", "left = 2",
        "radio(false) = 1", "left = 2");
    Script.end();
  }
}
