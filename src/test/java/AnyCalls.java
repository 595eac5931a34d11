import java.util.Random;

/** Any arguments in any state: no call throws, the answers keep to their ranges, and the same calls answer the same. */
public final class AnyCalls {
  private static final int[] EDGES = {Integer.MIN_VALUE, -4, -3, -2, -1, 0, 1, 2, 3, 4, 7, 8, 9, 10, 12, 13, 14, 15,
      20, 23, 24, 25, 30, 99, 100, 101, 255, 256, 770, 65535, 65536, Integer.MAX_VALUE};

  public static void main(String[] args) {
    for (int run = 0; run < 3000; run++) {
      oneRun(run);
    }
    Script.end();
  }

  private static void oneRun(int run) {
    int key = new Random(run).nextInt();
    MobileCall one = new MobileCall(key, run % 4 == 0 ? key + 1 : key, run);
    MobileCall two = new MobileCall(key, run % 4 == 0 ? key + 1 : key, run);
    Random first = new Random(run);
    Random second = new Random(run);
    StringBuilder answers = new StringBuilder();
    StringBuilder again = new StringBuilder();
    // told is called 14 times a round, so that 30 rounds stay within the 512 calls of an object.
    for (int k = 0; k < 30; k++) {
      answers.append(call(one, first)).append(' ');
      again.append(call(two, second)).append(' ');
      ranges(run, k, one);
    }
    Script.due("run " + run + ": the same calls", again.toString(), answers.toString());
  }

  private static int call(MobileCall x, Random random) {
    int a = number(random);
    int b = number(random);
    int way = random.nextInt(16) == 0 ? a : random.nextInt(2);
    switch (random.nextInt(24)) {
      case 0: return x.power(random.nextInt(8) != 0);
      case 1: return x.update(a);
      case 2: return x.dial(a, b);
      case 3: return x.hang();
      case 4: return x.alert();
      case 5: return x.answer();
      case 6: return x.clear(a);
      case 7: return x.accept(random.nextInt(4) == 0 ? a : 3);
      case 8: return x.radio(random.nextInt(8) != 0);
      case 9: return x.lose(way);
      case 10: return x.spoil(way, a, b);
      case 11: return x.forge(way, message(random), random.nextInt(7) == 0 ? a : 2 + random.nextInt(7));
      case 12: return x.tick(a);
      case 13: return x.told(a);
      case 14: return x.byteOf(way, a, b);
      case 15: return x.digit(a);
      case 16: return x.power(true) + x.update(b & 0xffff);
      case 17: return x.dial(a & 0xfffffff, 1 + (b & 7));
      default: return x.carry(way);
    }
  }

  private static int number(Random random) {
    return random.nextInt(5) == 0 ? random.nextInt() : EDGES[random.nextInt(EDGES.length)];
  }

  private static long message(Random random) {
    int[] types = {1, 2, 4, 5, 7, 8, 15, 17, 18, 20, 33, 34, 36, 37, 42, 45};
    long head = (random.nextBoolean() ? 5L : 3L) << 8 | types[random.nextInt(types.length)];
    return random.nextInt(3) == 0 ? random.nextLong() : head << 8 * random.nextInt(7) | random.nextInt(1 << 16);
  }

  private static void ranges(int run, int k, MobileCall x) {
    int[] told = Script.told(x);
    int[] lowest = {0, 0, 0, 0, 0, 0, 0, -1, 0, 0, 0, 0, -1, -1};
    int[] highest = {5, 6, 30, 65535, 3, 6, 30, 65535, 8, 8, 512, 1, 255, 255};
    boolean within = true;
    for (int what = 0; what < told.length; what++) {
      within = within && told[what] >= lowest[what] && told[what] <= highest[what];
    }
    boolean mobileCallFits = (told[1] != 0) == (told[0] == 5);
    boolean networkCallFits = told[5] == 0 || told[4] == 3;
    Script.due("run " + run + ", call " + k + ": ranges", within && mobileCallFits && networkCallFits, true);
  }
}
