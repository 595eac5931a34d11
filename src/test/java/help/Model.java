import java.util.ArrayList;
import java.util.Arrays;
import java.util.List;

/**
 * The document once more, written down sentence by sentence with the Java library and with nothing of the class, so
 * that both can be compared over any run of calls.
 */
final class Model {
  private static final int BAD = -1;
  private static final int NOT_SO = -2;
  private static final int NONE = -3;

  /** One side: the mobile (0) or the network (1). */
  private static final class Side {
    final int idle;
    final int sends;
    int state = 0;
    int call = 0;
    int timer = 0;
    int cause = -1;
    boolean onceMore = false;

    Side(int idle, int sends) {
      this.idle = idle;
      this.sends = sends;
    }

    void become(int newState, int newCall, int newTimer) {
      state = newState;
      call = newCall;
      timer = newTimer;
      onceMore = false;
    }
  }

  private final Side mobile = new Side(3, 0);
  private final Side network = new Side(0, 1);
  private final List<List<int[]>> rows = List.of(new ArrayList<>(), new ArrayList<>());
  private final int key;
  private final int networkKey;
  private int challenge;
  private int area = 0;
  private int known = -1;
  private int wanted = 0;
  private int accepted = 3;
  private int leftOnes = 0;
  private boolean radio = true;
  private String dialled = "";
  private int[] number = {};

  Model(int key, int networkKey, int seed) {
    this.key = key;
    this.networkKey = networkKey;
    challenge = seed;
  }

  int power(boolean on) {
    if (on == (mobile.state != 0)) {
      return NOT_SO;
    }
    if (on) {
      area = 0;
    } else {
      send(mobile, 5, 1);
    }
    mobile.become(on ? 1 : 0, 0, 0);
    return 1;
  }

  int update(int to) {
    if (to < 0 || to > 65535) {
      return BAD;
    }
    if (mobile.state != 1 && mobile.state != 3) {
      return NOT_SO;
    }
    send(mobile, 5, 8, 19, 2, to / 256, to % 256);
    mobile.become(2, 0, 20);
    return 1;
  }

  int dial(int digits, int many) {
    if (many < 1 || many > 8 || digits < 0) {
      return BAD;
    }
    if (mobile.state != 3) {
      return NOT_SO;
    }
    String all = "00000000" + digits;
    dialled = all.substring(all.length() - many);
    send(mobile, 5, 36);
    mobile.become(4, 0, 15);
    return 1;
  }

  int hang() {
    return end(mobile, 16);
  }

  int alert() {
    if (network.call != 1) {
      return NOT_SO;
    }
    send(network, 3, 1);
    network.become(3, 2, 0);
    return 1;
  }

  int answer() {
    if (network.call != 1 && network.call != 2) {
      return NOT_SO;
    }
    send(network, 3, 7);
    network.become(3, 3, 10);
    return 1;
  }

  int clear(int cause) {
    return cause < 0 || cause > 255 ? BAD : end(network, cause);
  }

  int accept(int bits) {
    accepted = bits;
    return 1;
  }

  int radio(boolean on) {
    if (on == radio) {
      return NOT_SO;
    }
    radio = on;
    if (!on) {
      rows.get(0).clear();
      rows.get(1).clear();
      if (mobile.state == 2) {
        mobile.become(1, 0, 0);
      } else if (mobile.state > 3) {
        mobile.become(3, 0, 0);
      }
      network.become(0, 0, 0);
    }
    return 1;
  }

  int carry(int way) {
    return first(way, true);
  }

  int lose(int way) {
    return first(way, false);
  }

  private int first(int way, boolean arrives) {
    if (way != 0 && way != 1) {
      return BAD;
    }
    if (rows.get(way).isEmpty()) {
      return NONE;
    }
    int[] message = rows.get(way).remove(0);
    if (!arrives) {
      return message[1];
    }
    List<int[]> elements = elements(message);
    boolean told = elements != null && (way == 0 ? toNetwork(message, elements) : toMobile(message, elements));
    leftOnes += told ? 0 : 1;
    return told ? message[1] : 1000 + message[1];
  }

  int spoil(int way, int i, int mask) {
    if (way != 0 && way != 1 || mask < 0 || mask > 255) {
      return BAD;
    }
    if (rows.get(way).isEmpty() || i < 0 || i >= rows.get(way).get(0).length) {
      return NONE;
    }
    return rows.get(way).get(0)[i] ^= mask;
  }

  int forge(int way, long v, int n) {
    if (way != 0 && way != 1 || n < 2 || n > 8) {
      return BAD;
    }
    if (!radio || rows.get(way).size() == 8) {
      return NOT_SO;
    }
    int[] message = new int[n];
    long rest = v;
    for (int k = n - 1; k >= 0; k--) {
      message[k] = (int) Math.floorMod(rest, 256L);
      rest = Math.floorDiv(rest, 256L);
    }
    rows.get(way).add(message);
    return rows.get(way).size();
  }

  int tick(int many) {
    if (many < 1 || many > 100) {
      return BAD;
    }
    int zeros = 0;
    for (int k = 0; k < many; k++) {
      for (Side side : new Side[] {mobile, network}) {
        if (side.timer > 0 && --side.timer == 0) {
          zeros++;
          atZero(side);
        }
      }
    }
    return zeros;
  }

  int told(int what) {
    int[] all = {mobile.state, mobile.call, mobile.timer, area, network.state, network.call, network.timer, known,
        rows.get(0).size(), rows.get(1).size(), leftOnes, radio ? 1 : 0, mobile.cause, network.cause};
    return what < 0 || what >= all.length ? BAD : all[what];
  }

  int byteOf(int way, int k, int i) {
    if (way != 0 && way != 1 || k < 0 || k >= rows.get(way).size()) {
      return NONE;
    }
    int[] message = rows.get(way).get(k);
    return i < 0 || i >= message.length ? NONE : message[i];
  }

  int digit(int i) {
    return network.call == 0 || i < 0 || i >= number.length ? NONE : number[i];
  }

  /** What a forger would send who knows the network's key. */
  int rightAnswer() {
    return Answers.answer(challenge, networkKey);
  }

  private void send(Side from, int... message) {
    if (radio && rows.get(from.sends).size() < 8) {
      rows.get(from.sends).add(message);
    }
  }

  private void sendNumber(Side from, int type, int tag, int value) {
    send(from, 5, type, tag, 4, value >>> 24, value >>> 16 & 255, value >>> 8 & 255, value & 255);
  }

  private int end(Side side, int cause) {
    if (side.call < 1 || side.call > 4) {
      return NOT_SO;
    }
    send(side, 3, 37, 8, 1, cause);
    side.become(side.state, 5, 30);
    return 1;
  }

  private void atZero(Side side) {
    if (side == mobile && side.state == 2) {
      side.become(1, 0, 0);
    } else if (side == mobile && side.call == 1) {
      send(side, 3, 42);
      side.become(side.idle, 0, 0);
    } else if (side == network && side.call == 3) {
      end(side, 102);
    } else if (side.call == 5 || side.call == 6 && !side.onceMore) {
      boolean onceMore = side.call == 6;
      send(side, 3, 45);
      side.become(side.state, 6, 30);
      side.onceMore = onceMore;
    } else {
      side.become(side.idle, 0, 0);
    }
  }

  /** Tag and bytes of each element; null when they do not end just at the message's end. */
  private static List<int[]> elements(int[] message) {
    List<int[]> all = new ArrayList<>();
    int at = 2;
    while (at < message.length) {
      if (at + 2 > message.length || at + 2 + message[at + 1] > message.length) {
        return null;
      }
      int[] element = Arrays.copyOfRange(message, at + 1, at + 2 + message[at + 1]);
      element[0] = message[at];
      all.add(element);
      at += 1 + element.length;
    }
    return all;
  }

  /** The bytes of the first element with a tag, if they are from .. to many; else null. */
  private static int[] with(List<int[]> elements, int tag, int from, int to) {
    for (int[] element : elements) {
      if (element[0] == tag) {
        boolean fits = element.length - 1 >= from && element.length - 1 <= to;
        return fits ? Arrays.copyOfRange(element, 1, element.length) : null;
      }
    }
    return null;
  }

  private static int value(int[] bytes) {
    long value = 0;
    for (int b : bytes) {
      value = value * 256 + b;
    }
    return (int) value;
  }

  private boolean toMobile(int[] message, List<int[]> elements) {
    int[] cause = with(elements, 8, 1, 1);
    switch (message[0] * 1000 + message[1]) {
      case 5002: return mobile.state == 2 && updated(with(elements, 19, 2, 2));
      case 5004: return mobile.state == 2 && caused(mobile, cause, 1, 0, 0);
      case 5018: return (mobile.state == 2 || mobile.state == 4) && challenged(with(elements, 33, 4, 4));
      case 5017: return mobile.state != 0 && then(mobile, 1, 0, 0);
      case 5033: return mobile.state == 4 && served();
      case 5034: return mobile.state == 4 && caused(mobile, cause, 3, 0, 0);
      case 3002: return mobile.call == 1 && then(mobile, 5, 2, 0);
      case 3001: return called(mobile, 1, 2) && then(mobile, 5, 3, 0);
      case 3007: return called(mobile, 1, 3) && then(mobile, 5, 4, 0, 3, 15);
      case 3037: return called(mobile, 1, 5) && caused(mobile, cause, 5, 6, 30, 3, 45);
      case 3045: return called(mobile, 1, 6) && then(mobile, 3, 0, 0, 3, 42);
      case 3042: return called(mobile, 1, 6) && then(mobile, 3, 0, 0);
      default: return false;
    }
  }

  private boolean toNetwork(int[] message, List<int[]> elements) {
    boolean connected = network.state == 3;
    switch (message[0] * 1000 + message[1]) {
      case 5008: return network.state == 0 && asked(with(elements, 19, 2, 2));
      case 5036: return network.state == 0 && askedService();
      case 5020: return (network.state == 1 || network.state == 2) && answered(with(elements, 34, 4, 4));
      case 5001: return forgotten() && then(network, 0, 0, 0);
      case 3005: return connected && network.call == 0 && setUp(with(elements, 94, 1, 8));
      case 3015: return network.call == 3 && then(network, 3, 4, 0);
      case 3037: return called(network, 1, 5) && caused(network, with(elements, 8, 1, 1), 3, 6, 30, 3, 45);
      case 3045: return connected && then(network, 0, 0, 0, 3, 42);
      case 3042: return connected && then(network, 0, 0, 0);
      default: return false;
    }
  }

  private static boolean called(Side side, int from, int to) {
    return side.call >= from && side.call <= to;
  }

  private boolean then(Side side, int state, int call, int timer, int... sent) {
    if (sent.length > 0) {
      send(side, sent);
    }
    side.become(state, call, timer);
    return true;
  }

  private boolean caused(Side side, int[] cause, int state, int call, int timer, int... sent) {
    if (cause == null) {
      return false;
    }
    side.cause = cause[0];
    return then(side, state, call, timer, sent);
  }

  private boolean updated(int[] bytes) {
    if (bytes == null) {
      return false;
    }
    area = value(bytes);
    return then(mobile, 3, 0, 0);
  }

  private boolean challenged(int[] bytes) {
    if (bytes == null) {
      return false;
    }
    sendNumber(mobile, 20, 34, Answers.answer(value(bytes), key));
    return true;
  }

  private boolean served() {
    int[] setUp = new int[4 + dialled.length()];
    System.arraycopy(new int[] {3, 5, 94, dialled.length()}, 0, setUp, 0, 4);
    for (int k = 0; k < dialled.length(); k++) {
      setUp[4 + k] = dialled.charAt(k) - '0';
    }
    return then(mobile, 5, 1, 30, setUp);
  }

  private boolean asked(int[] bytes) {
    if (bytes == null) {
      return false;
    }
    wanted = value(bytes);
    return challenge(1);
  }

  private boolean askedService() {
    return known == -1 ? then(network, 0, 0, 0, 5, 34, 8, 1, 4) : challenge(2);
  }

  private boolean challenge(int state) {
    challenge = Answers.nextChallenge(challenge);
    sendNumber(network, 18, 33, challenge);
    return then(network, state, 0, 12);
  }

  private boolean answered(int[] bytes) {
    if (bytes == null) {
      return false;
    }
    if (value(bytes) != rightAnswer()) {
      return forgotten() && then(network, 0, 0, 0, 5, 17);
    }
    return network.state == 2 ? services() : updates();
  }

  private boolean services() {
    boolean yes = Math.floorMod(Math.floorDiv(accepted, 2), 2) == 1;
    return yes ? then(network, 3, 0, 0, 5, 33) : then(network, 0, 0, 0, 5, 34, 8, 1, 32);
  }

  private boolean updates() {
    if (Math.floorMod(accepted, 2) == 0) {
      return then(network, 0, 0, 0, 5, 4, 8, 1, 11);
    }
    known = wanted;
    return then(network, 0, 0, 0, 5, 2, 19, 2, known / 256, known % 256);
  }

  private boolean forgotten() {
    known = -1;
    return true;
  }

  private boolean setUp(int[] bytes) {
    if (bytes == null) {
      return false;
    }
    number = bytes;
    return then(network, 3, 1, 0, 3, 2);
  }
}
