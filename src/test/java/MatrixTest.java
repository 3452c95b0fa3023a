import java.math.BigInteger;
import java.util.Random;

/** MATRICES and numbers worked out exactly, over all their bounds: the greatest FIXED not above the exact value, or RANGE, RESULT. */
public final class MatrixTest {
  private static final BigInteger ONE = BigInteger.valueOf(65536);
  private static final long BOUND = 64 * 65536L;

  public static void main(String[] args) {
    Bench b = new Bench("MatrixTest");
    Random random = new Random(5);
    for (int i = 0; i < 300; i++) {
      long[] m = matrix(random);
      long[] n = matrix(random);
      products(b, m, n);
      inverses(b, m);
      places(b, m, number(random, 1L << 31), number(random, 1L << 31));
      quotients(b, number(random, 1L << 31), number(random, 1L << 31));
    }
    b.close();
  }

  private static BigInteger big(long n) {
    return BigInteger.valueOf(n);
  }

  /** Anything within the bound, with small, whole, and outermost ones among them. */
  private static long number(Random random, long bound) {
    switch (random.nextInt(6)) {
      case 0: return random.nextInt(5) - 2;
      case 1: return (random.nextInt(9) - 4) * 65536L;
      case 2: return random.nextBoolean() ? bound - 1 - random.nextInt(2) : -bound + random.nextInt(2);
      case 3: return random.nextInt(1 << 20) - (1 << 19);
      default: return Math.floorMod(random.nextLong(), 2 * bound) - bound;
    }
  }

  private static long[] matrix(Random random) {
    long[] m = new long[6];
    for (int i = 0; i < 6; i++) {
      m[i] = number(random, i < 4 ? BOUND : 1L << 31);
    }
    if (random.nextInt(8) == 0) {
      m[2] = m[0];
      m[3] = m[1];
    }
    return m;
  }

  private static BigInteger floor(BigInteger top, BigInteger bottom) {
    BigInteger[] parts = top.divideAndRemainder(bottom);
    return parts[1].signum() != 0 && parts[1].signum() != bottom.signum() ? parts[0].subtract(BigInteger.ONE) : parts[0];
  }

  private static boolean fits(BigInteger v) {
    return v.bitLength() < 32;
  }

  private static boolean isMatrix(BigInteger[] six) {
    boolean is = true;
    for (int i = 0; i < 6; i++) {
      is &= i < 4 ? six[i].abs().compareTo(big(BOUND)) <= 0 : fits(six[i]);
    }
    return is;
  }

  private static String operands(BigInteger... all) {
    StringBuilder text = new StringBuilder();
    for (BigInteger v : all) {
      text.append(text.length() == 0 ? "1:" : " 1:").append(v);
    }
    return text.toString();
  }

  private static BigInteger sum(long a, long x, long c, long y, long t) {
    return floor(big(a).multiply(big(x)).add(big(c).multiply(big(y))), ONE).add(big(t));
  }

  private static void products(Bench b, long[] m, long[] n) {
    BigInteger[] six = {sum(m[0], n[0], m[1], n[2], 0), sum(m[0], n[1], m[1], n[3], 0), sum(m[2], n[0], m[3], n[2], 0), sum(m[2], n[1], m[3], n[3], 0),
        sum(m[4], n[0], m[5], n[2], n[4]), sum(m[4], n[1], m[5], n[3], n[5])};
    String text = Ink.matrix(m) + " " + Ink.matrix(n) + " 6 array concatmatrix aload pop";
    String other = Ink.matrix(n) + " setmatrix " + Ink.matrix(m) + " concat 6 array currentmatrix aload pop";
    if (isMatrix(six)) {
      b.gives(text, operands(six));
      b.gives(other, operands(six));
    } else {
      b.errs(text, Bench.RANGE);
      b.errs(other, Bench.RANGE);
    }
  }

  private static BigInteger ratio(BigInteger top, BigInteger det) {
    return floor(top.multiply(ONE), det);
  }

  private static void inverses(Bench b, long[] m) {
    BigInteger det = big(m[0]).multiply(big(m[3])).subtract(big(m[1]).multiply(big(m[2])));
    String text = Ink.matrix(m) + " 6 array invertmatrix aload pop";
    if (det.signum() == 0) {
      b.errs(text, Bench.RESULT);
      return;
    }
    BigInteger[] six = {ratio(big(m[3]).multiply(ONE), det), ratio(big(-m[1]).multiply(ONE), det), ratio(big(-m[2]).multiply(ONE), det),
        ratio(big(m[0]).multiply(ONE), det), ratio(big(m[2]).multiply(big(m[5])).subtract(big(m[3]).multiply(big(m[4]))), det),
        ratio(big(m[1]).multiply(big(m[4])).subtract(big(m[0]).multiply(big(m[5]))), det)};
    if (isMatrix(six)) {
      b.gives(text, operands(six));
    } else {
      b.errs(text, Bench.RANGE);
    }
  }

  private static void pair(Bench b, String text, BigInteger x, BigInteger y) {
    if (fits(x) && fits(y)) {
      b.gives(text, operands(x, y));
    } else {
      b.errs(text, Bench.RANGE);
    }
  }

  private static void places(Bench b, long[] m, long x, long y) {
    String of = Ink.number(x) + " " + Ink.number(y) + " ";
    String by = Ink.matrix(m) + " ";
    BigInteger det = big(m[0]).multiply(big(m[3])).subtract(big(m[1]).multiply(big(m[2])));
    for (int set = 0; set < 2; set++) {
      String text = set == 0 ? of + by : by + "setmatrix " + of;
      pair(b, text + "transform", sum(m[0], x, m[2], y, m[4]), sum(m[1], x, m[3], y, m[5]));
      pair(b, text + "dtransform", sum(m[0], x, m[2], y, 0), sum(m[1], x, m[3], y, 0));
      for (int distance = 0; distance < 2; distance++) {
        String op = distance == 0 ? "itransform" : "idtransform";
        if (det.signum() == 0) {
          b.errs(text + op, Bench.RESULT);
          continue;
        }
        BigInteger fromX = big(x - (distance == 0 ? m[4] : 0));
        BigInteger fromY = big(y - (distance == 0 ? m[5] : 0));
        pair(b, text + op, ratio(big(m[3]).multiply(fromX).subtract(big(m[2]).multiply(fromY)), det),
            ratio(big(m[0]).multiply(fromY).subtract(big(m[1]).multiply(fromX)), det));
      }
    }
  }

  private static void quotients(Bench b, long x, long y) {
    String of = Ink.number(x) + " " + Ink.number(y) + " ";
    one(b, of + "add", big(x).add(big(y)));
    one(b, of + "sub", big(x).subtract(big(y)));
    one(b, of + "mul", floor(big(x).multiply(big(y)), ONE));
    if (y == 0) {
      b.errs(of + "div", Bench.RESULT);
    } else {
      one(b, of + "div", floor(big(x).multiply(ONE), big(y)));
    }
    if (x < 0) {
      b.errs(Ink.number(x) + " sqrt", Bench.RANGE);
    } else {
      one(b, Ink.number(x) + " sqrt", big(x).multiply(ONE).sqrt());
    }
  }

  private static void one(Bench b, String text, BigInteger v) {
    if (fits(v)) {
      b.gives(text, operands(v));
    } else {
      b.errs(text, Bench.RANGE);
    }
  }
}
