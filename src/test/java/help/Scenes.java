/** Objects that stand at a known point; both keys are 5, the seed is 1, the area is 770, the number 4711. */
final class Scenes {
  private Scenes() {}

  static MobileCall fresh() {
    return new MobileCall(5, 5, 1);
  }

  static MobileCall lost() {
    MobileCall x = fresh();
    x.power(true);
    return x;
  }

  /** UPDATE is in the row UP. */
  static MobileCall updating() {
    MobileCall x = lost();
    x.update(770);
    return x;
  }

  /** CHALLENGE is in the row DOWN. */
  static MobileCall askedUpdate() {
    return carry(updating(), 0);
  }

  static MobileCall registered() {
    return carry(askedUpdate(), 1, 0, 1);
  }

  /** SERVICE is in the row UP. */
  static MobileCall asking() {
    MobileCall x = registered();
    x.dial(4711, 4);
    return x;
  }

  /** CHALLENGE is in the row DOWN. */
  static MobileCall askedService() {
    return carry(asking(), 0);
  }

  /** The mobile's call is SET UP, the network has none yet: SET UP is in the row UP. */
  static MobileCall setUp() {
    return carry(askedService(), 1, 0, 1);
  }

  /** The longest message there is, of 12 bytes, SET UP with the number 12345678, is in the row UP. */
  static MobileCall longest() {
    MobileCall x = registered();
    x.dial(12345678, 8);
    return carry(x, 0, 1, 0, 1);
  }

  static MobileCall onItsWay() {
    return carry(setUp(), 0, 1);
  }

  static MobileCall ringing() {
    MobileCall x = onItsWay();
    x.alert();
    return carry(x, 1);
  }

  /** CONNECT is in the row DOWN. */
  static MobileCall answered() {
    MobileCall x = ringing();
    x.answer();
    return x;
  }

  static MobileCall active() {
    return carry(answered(), 1, 0);
  }

  /** The mobile's call is ENDING: END is in the row UP. */
  static MobileCall mobileEnding() {
    MobileCall x = active();
    x.hang();
    return x;
  }

  /** The mobile's call is ENDING, the network's RELEASING: RELEASE is in the row DOWN. */
  static MobileCall networkReleasing() {
    return carry(mobileEnding(), 0);
  }

  /** The network's call is ENDING: END is in the row DOWN. */
  static MobileCall networkEnding() {
    MobileCall x = active();
    x.clear(7);
    return x;
  }

  /** The network's call is ENDING, the mobile's RELEASING: RELEASE is in the row UP. */
  static MobileCall mobileReleasing() {
    return carry(networkEnding(), 1);
  }

  /** Both calls are ENDING: END is in both rows. */
  static MobileCall bothEnding() {
    MobileCall x = mobileEnding();
    x.clear(7);
    return x;
  }

  /** The situation of the mobile by name, with both rows empty. */
  static MobileCall ofMobile(String situation) {
    switch (situation) {
      case "off": return fresh();
      case "lost": return lost();
      case "updating": return emptied(updating());
      case "registered": return registered();
      case "asking": return emptied(asking());
      case "call 1": return emptied(setUp());
      case "call 2": return onItsWay();
      case "call 3": return ringing();
      case "call 4": return active();
      case "call 5": return emptied(mobileEnding());
      case "call 6": return emptied(mobileReleasing());
      default: throw new IllegalArgumentException(situation);
    }
  }

  /** The situation of the network by name, with both rows empty. */
  static MobileCall ofNetwork(String situation) {
    switch (situation) {
      case "idle": return fresh();
      case "idle, area": return registered();
      case "asked update": return emptied(askedUpdate());
      case "asked service": return emptied(askedService());
      case "call 0": return emptied(setUp());
      case "call 1": return onItsWay();
      case "call 2": return ringing();
      case "call 3": return emptied(answered());
      case "call 4": return active();
      case "call 5": return emptied(networkEnding());
      case "call 6": return emptied(networkReleasing());
      default: throw new IllegalArgumentException(situation);
    }
  }

  static MobileCall carry(MobileCall x, int... ways) {
    for (int way : ways) {
      x.carry(way);
    }
    return x;
  }

  /** A row with so many messages, the last ones of them 05 00, which both sides leave. */
  static MobileCall filled(MobileCall x, int way, int many) {
    for (int k = x.told(8 + way); k < many; k++) {
      x.forge(way, 0x0500, 2);
    }
    return x;
  }

  /** The first message of the row UP, spoilt so that it has these bytes, as many as it had. */
  static MobileCall rewritten(MobileCall x, String bytes) {
    String[] parts = bytes.split(" ");
    for (int i = 0; i < parts.length; i++) {
      x.spoil(0, i, x.byteOf(0, 0, i) ^ Integer.parseInt(parts[i], 16));
    }
    return x;
  }

  static MobileCall emptied(MobileCall x) {
    for (int k = 0; k < 8; k++) {
      x.lose(0);
      x.lose(1);
    }
    return x;
  }
}
