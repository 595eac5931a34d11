import java.util.Random;
import java.util.TreeMap;

/**
 * Runs of 512 calls, as many as an object is used for, with any arguments in any state: each answer is the model's and
 * no call throws. The runs must have been in every state and call of both sides, and in rows of every length.
 */
public final class AnyCalls {
  private static final int RUNS = 4000;
  private static final int CALLS = 512;
  private static final int CALM = 0;
  private static final int CROWDED = 1;
  private static final int[] EDGES = {Integer.MIN_VALUE, -4, -3, -2, -1, 0, 1, 2, 3, 4, 5, 7, 8, 9, 10, 11, 12, 13, 14,
      15, 16, 20, 23, 24, 25, 30, 99, 100, 101, 255, 256, 770, 65535, 65536, 99999999, 100000000, Integer.MAX_VALUE};
  private static final int[] TYPES = {1, 2, 4, 5, 7, 8, 15, 17, 18, 20, 33, 34, 36, 37, 42, 45};
  private static final int[] TAGS = {8, 19, 33, 34, 94};

  private final TreeMap<String, Integer> seen = new TreeMap<>();
  private Random random;
  private int mood;
  private MobileCall x;
  private Model model;
  private String called;
  private int got;
  private int want;

  public static void main(String[] args) {
    AnyCalls test = new AnyCalls();
    for (int run = 0; run < RUNS; run++) {
      test.oneRun(run);
    }
    test.often("told(0) = ", 0, 1, 2, 3, 4, 5);
    test.often("told(1) = ", 0, 1, 2, 3, 4, 5, 6);
    test.often("told(4) = ", 0, 1, 2, 3);
    test.often("told(5) = ", 0, 1, 2, 3, 4, 5, 6);
    test.often("told(8) = ", 0, 1, 2, 3, 4, 5, 6, 7, 8);
    test.often("told(9) = ", 0, 1, 2, 3, 4, 5, 6, 7, 8);
    test.often("told(11) = ", 0, 1);
    test.often("carry(0) = ", 8, 20, 36, 1, 5, 15, 37, 45, 42);
    test.often("carry(1) = ", 2, 4, 18, 17, 33, 34, 1, 7, 37, 45, 42);
    Script.end();
  }

  private void often(String call, int... answers) {
    for (int answer : answers) {
      int times = seen.getOrDefault(call + answer, 0);
      Script.due(call + answer + " came often, " + times, times > RUNS / 10, true);
    }
  }

  private void oneRun(int run) {
    random = new Random(run);
    mood = run % 3;
    int key = random.nextInt();
    int networkKey = run % 9 == 2 ? key + 1 : key;
    int seed = number();
    x = new MobileCall(key, networkKey, seed);
    model = new Model(key, networkKey, seed);
    StringBuilder calls = new StringBuilder();
    for (int k = 0; k < CALLS; k++) {
      one();
      calls.append(called).append(' ');
      Script.due("run " + run + ", " + key + ", " + networkKey + ", " + seed + ": "
          + (got == want ? called : calls.toString()), got, want);
      if (got != want) {
        return;
      }
      see();
    }
  }

  private void see() {
    for (int what : new int[] {0, 1, 4, 5, 8, 9, 11}) {
      seen.merge("told(" + what + ") = " + model.told(what), 1, Integer::sum);
    }
    if (called.startsWith("carry")) {
      seen.merge(called + " = " + got, 1, Integer::sum);
    }
  }

  /** A calm run gets far into a call, a crowded one fills the rows, and the others are disturbed more often. */
  private void one() {
    int least = mood == CROWDED ? 35 : 0;
    int kind = least + random.nextInt((mood == CALM ? 75 : 100) - least);
    if (kind < 40) {
      carry(way());
    } else if (kind < 63) {
      progress();
    } else if (kind < 73) {
      look();
    } else if (kind < 85) {
      forge();
    } else if (kind < 90) {
      spoil();
    } else {
      edge();
    }
  }

  private void progress() {
    switch (random.nextInt(12)) {
      case 0: update(random.nextInt(65536)); break;
      case 1: dial(random.nextInt(Integer.MAX_VALUE), 1 + random.nextInt(8)); break;
      case 2: hang(); break;
      case 3: alert(); break;
      case 4: answer(); break;
      case 5: clear(random.nextInt(256)); break;
      case 6: tick(time()); break;
      default: onwards(); break;
    }
  }

  private void onwards() {
    switch (model.told(0)) {
      case 0: power(true); break;
      case 1: update(random.nextInt(65536)); break;
      case 3: dial(random.nextInt(Integer.MAX_VALUE), 1 + random.nextInt(8)); break;
      default: carry(model.told(8) > 0 ? 0 : 1); break;
    }
  }

  /** Often just as many ticks as bring a timer to 0, or one fewer. */
  private int time() {
    int timer = model.told(random.nextBoolean() ? 2 : 6) - random.nextInt(2);
    return random.nextInt(3) == 0 || timer < 1 ? 1 + random.nextInt(4) : timer;
  }

  private void forge() {
    if (random.nextInt(6) == 0) {
      forge(0, 0x05142204L << 32 | model.rightAnswer() & 0xffffffffL, 8);
      return;
    }
    long v = random.nextInt(12) == 0 ? random.nextInt(256) : random.nextBoolean() ? 5 : 3;
    v = v << 8 | TYPES[random.nextInt(TYPES.length)];
    int n = 2;
    while (n < 7 && random.nextInt(3) != 0) {
      int tag = TAGS[random.nextInt(TAGS.length)];
      int length = random.nextInt(4) == 0 ? random.nextInt(7 - n) : Math.min(lengthOf(tag), 6 - n);
      v = (v << 8 | tag) << 8 | length;
      n += 2 + length;
      for (int k = 0; k < length; k++) {
        v = v << 8 | random.nextInt(256);
      }
    }
    if (n < 8 && random.nextInt(10) == 0) {
      v = v << 8 | random.nextInt(3);
      n++;
    }
    forge(way(), v, n);
  }

  private static int lengthOf(int tag) {
    return tag == 8 ? 1 : tag == 19 ? 2 : 4;
  }

  private void spoil() {
    int way = way();
    int i = random.nextInt(13);
    int now = model.byteOf(way, 0, i);
    int mask = random.nextInt(256);
    if (now >= 0 && random.nextInt(3) != 0) {
      mask = now ^ likely(i);
    }
    spoil(way, i, mask);
  }

  /** A byte that may well stand at place i of a message. */
  private int likely(int i) {
    switch (i) {
      case 0: return random.nextBoolean() ? 5 : 3;
      case 1: return TYPES[random.nextInt(TYPES.length)];
      case 2: return TAGS[random.nextInt(TAGS.length)];
      case 3: return random.nextInt(9);
      default: return random.nextBoolean() ? random.nextInt(5) : TAGS[random.nextInt(TAGS.length)];
    }
  }

  private void look() {
    switch (random.nextInt(4)) {
      case 0: byteOf(way(), random.nextInt(9), random.nextInt(13)); break;
      case 1: digit(random.nextInt(9)); break;
      default: told(random.nextInt(14)); break;
    }
  }

  private void edge() {
    int way = random.nextInt(4) == 0 ? number() : way();
    switch (random.nextInt(17)) {
      case 0: power(random.nextInt(4) != 0); break;
      case 1: update(number()); break;
      case 2: dial(number(), random.nextInt(2) == 0 ? number() : 1 + random.nextInt(8)); break;
      case 3: hang(); break;
      case 4: alert(); break;
      case 5: answer(); break;
      case 6: clear(number()); break;
      case 7: accept(random.nextInt(3) == 0 ? number() : 3); break;
      case 8: radio(random.nextInt(4) != 0); break;
      case 9: carry(way); break;
      case 10: lose(way); break;
      case 11: spoil(way, number(), random.nextBoolean() ? number() : random.nextInt(256)); break;
      case 12: forge(way, random.nextLong(), number()); break;
      case 13: tick(number()); break;
      case 14: told(number()); break;
      case 15: byteOf(way, random.nextBoolean() ? 0 : number(), number()); break;
      default: digit(number()); break;
    }
  }

  private int way() {
    return random.nextInt(2);
  }

  private int number() {
    return random.nextInt(5) == 0 ? random.nextInt() : EDGES[random.nextInt(EDGES.length)];
  }

  private void power(boolean on) {
    both("power(" + on + ")", x.power(on), model.power(on));
  }

  private void update(int area) {
    both("update(" + area + ")", x.update(area), model.update(area));
  }

  private void dial(int number, int digits) {
    both("dial(" + number + ", " + digits + ")", x.dial(number, digits), model.dial(number, digits));
  }

  private void hang() {
    both("hang()", x.hang(), model.hang());
  }

  private void alert() {
    both("alert()", x.alert(), model.alert());
  }

  private void answer() {
    both("answer()", x.answer(), model.answer());
  }

  private void clear(int cause) {
    both("clear(" + cause + ")", x.clear(cause), model.clear(cause));
  }

  private void accept(int bits) {
    both("accept(" + bits + ")", x.accept(bits), model.accept(bits));
  }

  private void radio(boolean on) {
    both("radio(" + on + ")", x.radio(on), model.radio(on));
  }

  private void carry(int way) {
    both("carry(" + way + ")", x.carry(way), model.carry(way));
  }

  private void lose(int way) {
    both("lose(" + way + ")", x.lose(way), model.lose(way));
  }

  private void spoil(int way, int i, int mask) {
    both("spoil(" + way + ", " + i + ", " + mask + ")", x.spoil(way, i, mask), model.spoil(way, i, mask));
  }

  private void forge(int way, long v, int n) {
    both("forge(" + way + ", " + v + "L, " + n + ")", x.forge(way, v, n), model.forge(way, v, n));
  }

  private void tick(int many) {
    both("tick(" + many + ")", x.tick(many), model.tick(many));
  }

  private void told(int what) {
    both("told(" + what + ")", x.told(what), model.told(what));
  }

  private void byteOf(int way, int k, int i) {
    both("byteOf(" + way + ", " + k + ", " + i + ")", x.byteOf(way, k, i), model.byteOf(way, k, i));
  }

  private void digit(int i) {
    both("digit(" + i + ")", x.digit(i), model.digit(i));
  }

  private void both(String name, int ofClass, int ofModel) {
    called = name;
    got = ofClass;
    want = ofModel;
  }
}
