import java.math.BigInteger;

/** The answer to a challenge, reckoned with large numbers and without shifts of int. */
final class Answers {
  private static final BigInteger TURN = BigInteger.ONE.shiftLeft(32);

  private Answers() {}

  static int answer(int challenge, int key) {
    BigInteger mixed = BigInteger.valueOf(Integer.toUnsignedLong(challenge ^ key));
    BigInteger product = mixed.multiply(BigInteger.valueOf(16777619)).mod(TURN);
    BigInteger[] parts = product.multiply(BigInteger.valueOf(32)).divideAndRemainder(TURN);
    return parts[0].add(parts[1]).intValue();
  }

  static int nextChallenge(int challenge) {
    BigInteger before = BigInteger.valueOf(Integer.toUnsignedLong(challenge));
    return before.multiply(BigInteger.valueOf(1103515245)).add(BigInteger.valueOf(12345)).mod(TURN).intValue();
  }

  static String hex(int challenge, int key) {
    return bytes(answer(challenge, key));
  }

  static String bytes(int number) {
    String digits = String.format("%08x", number);
    return digits.substring(0, 2) + " " + digits.substring(2, 4) + " " + digits.substring(4, 6) + " "
        + digits.substring(6);
  }
}
