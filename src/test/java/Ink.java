import java.math.BigInteger;
import java.util.ArrayList;
import java.util.List;

/** A slow model of PART 5's painting, after the document's words: FLAT paths, what is INSIDE, strokes, samples, dots. */
final class Ink {
  static final long ONE = 65536;
  static final int[] DOTS = {0, 8, 2, 10, 12, 4, 14, 6, 3, 11, 1, 9, 15, 7, 13, 5};
  private static final int[] CIRCLE = {65536, 60547, 46341, 25080, 0, -25080, -46341, -60547, -65536, -60547, -46341, -25080,
      0, 25080, 46341, 60547};

  /** A MOVE and what is up to the next one, as places of a FLAT path. */
  static final class Part {
    final List<long[]> places = new ArrayList<>();
    boolean closed;
    boolean alone = true;
  }

  /** A text that draws a path, and the same path as parts. */
  static final class Path {
    final StringBuilder text = new StringBuilder();
    final List<Part> parts = new ArrayList<>();

    private Part last() {
      return parts.get(parts.size() - 1);
    }

    Path move(long x, long y) {
      text.append(number(x)).append(' ').append(number(y)).append(" moveto ");
      if (!parts.isEmpty() && last().alone) {
        parts.remove(parts.size() - 1);
      }
      Part part = new Part();
      part.places.add(new long[] {x, y});
      parts.add(part);
      return this;
    }

    private void reopen() {
      if (last().closed) {
        Part part = new Part();
        part.places.add(last().places.get(0));
        parts.add(part);
      }
      last().alone = false;
    }

    Path line(long x, long y) {
      text.append(number(x)).append(' ').append(number(y)).append(" lineto ");
      reopen();
      last().places.add(new long[] {x, y});
      return this;
    }

    Path curve(long... six) {
      for (long v : six) {
        text.append(number(v)).append(' ');
      }
      text.append("curveto ");
      reopen();
      long[] from = last().places.get(last().places.size() - 1);
      for (long k = 1; k <= 8; k++) {
        long[] place = new long[2];
        for (int i = 0; i < 2; i++) {
          long j = 8 - k;
          place[i] = Math.floorDiv(j * j * j * from[i] + 3 * j * j * k * six[i] + 3 * j * k * k * six[2 + i] + k * k * k * six[4 + i], 512);
        }
        last().places.add(place);
      }
      return this;
    }

    Path close() {
      text.append("closepath ");
      last().closed = true;
      last().alone = false;
      return this;
    }
  }

  private Ink() {
  }

  /** A FIXED as a text that is read as exactly that. */
  static String number(long v) {
    BigInteger parts = BigInteger.valueOf(v).abs().multiply(BigInteger.TEN.pow(16)).shiftRight(16);
    String digits = parts.toString();
    while (digits.length() < 17) {
      digits = "0" + digits;
    }
    int point = digits.length() - 16;
    return (v < 0 ? "-" : "") + digits.substring(0, point) + "." + digits.substring(point);
  }

  static long times(long a, long b) {
    return Math.floorDiv(Math.multiplyExact(a, b), ONE);
  }

  static long root(long n) {
    return BigInteger.valueOf(n).sqrt().longValueExact();
  }

  // ---- What is inside

  static List<long[]> closed(long... corners) {
    List<long[]> edges = new ArrayList<>();
    for (int i = 0; i < corners.length; i += 2) {
      int k = (i + 2) % corners.length;
      edges.add(new long[] {corners[i], corners[i + 1], corners[k], corners[k + 1]});
    }
    return edges;
  }

  /** The EDGES: each LINE, and of each part one from its last place to its MOVE. */
  static List<long[]> edges(List<Part> parts) {
    List<long[]> edges = new ArrayList<>();
    for (Part part : parts) {
      for (int i = 0; i < part.places.size(); i++) {
        long[] p = part.places.get(i);
        long[] q = part.places.get((i + 1) % part.places.size());
        edges.add(new long[] {p[0], p[1], q[0], q[1]});
      }
    }
    return edges;
  }

  private static int sideOf(long a, long b, long c, long d) {
    long most = Math.max(Math.max(Math.abs(a), Math.abs(b)), Math.max(Math.abs(c), Math.abs(d)));
    if (most < 1L << 30) {
      return Long.signum(a * b + c * d);
    }
    return BigInteger.valueOf(a).multiply(BigInteger.valueOf(b)).add(BigInteger.valueOf(c).multiply(BigInteger.valueOf(d))).signum();
  }

  static boolean inside(List<long[]> edges, int i, int j, boolean evenOdd) {
    long x = i * ONE + ONE / 2;
    long y = j * ONE + ONE / 2;
    int sum = 0;
    int met = 0;
    for (long[] e : edges) {
      boolean up = e[1] < e[3];
      long lowX = up ? e[0] : e[2];
      long lowY = up ? e[1] : e[3];
      long highX = up ? e[2] : e[0];
      long highY = up ? e[3] : e[1];
      if (lowY <= y && highY > y && sideOf(lowX - x, highY - lowY, highX - lowX, y - lowY) >= 0) {
        sum += up ? 1 : -1;
        met++;
      }
    }
    return evenOdd ? met % 2 == 1 : sum != 0;
  }

  // ---- Strokes

  static long half(long width, long det) {
    return Math.max(ONE / 4, Math.min(200 * ONE, Math.floorDiv(times(width, root(Math.abs(det))), 2L)));
  }

  static List<List<long[]>> stroke(List<Part> parts, int ends, int join, long miter, long half) {
    List<List<long[]>> figures = new ArrayList<>();
    for (Part part : parts) {
      List<long[]> edges = new ArrayList<>();
      int n = part.places.size();
      for (int i = 0; i < (part.closed ? n : n - 1); i++) {
        long[] p = part.places.get(i);
        long[] q = part.places.get((i + 1) % n);
        long dx = q[0] - p[0];
        long dy = q[1] - p[1];
        if (dx != 0 || dy != 0) {
          long length = Math.max(1, root(dx * dx + dy * dy));
          edges.add(new long[] {p[0], p[1], q[0], q[1], Math.floorDiv(dx * half, length), Math.floorDiv(dy * half, length)});
        }
      }
      if (!edges.isEmpty()) {
        strokeEdges(figures, edges, part.closed, new long[] {ends, join, miter, half});
      } else if (ends == 1 && !part.alone) {
        figures.add(disc(part.places.get(0)[0], part.places.get(0)[1], half));
      }
    }
    return figures;
  }

  private static void strokeEdges(List<List<long[]>> figures, List<long[]> edges, boolean close, long[] how) {
    for (int i = 0; i < edges.size(); i++) {
      long[] e = edges.get(i);
      boolean first = !close && how[0] == 2 && i == 0;
      boolean last = !close && how[0] == 2 && i == edges.size() - 1;
      long px = e[0] - (first ? e[4] : 0);
      long py = e[1] - (first ? e[5] : 0);
      long qx = e[2] + (last ? e[4] : 0);
      long qy = e[3] + (last ? e[5] : 0);
      figures.add(closed(px - e[5], py + e[4], px + e[5], py - e[4], qx + e[5], qy - e[4], qx - e[5], qy + e[4]));
      if (i + 1 < edges.size() || close) {
        join(figures, e, edges.get((i + 1) % edges.size()), how);
      }
    }
    if (!close && how[0] == 1) {
      long[] e = edges.get(edges.size() - 1);
      figures.add(disc(edges.get(0)[0], edges.get(0)[1], how[3]));
      figures.add(disc(e[2], e[3], how[3]));
    }
  }

  static long discX(int k, long half) {
    return times(half, CIRCLE[k]);
  }

  static long discY(int k, long half) {
    return times(half, CIRCLE[(k + 12) % 16]);
  }

  static List<long[]> disc(long x, long y, long half) {
    long[] corners = new long[32];
    for (int k = 0; k < 16; k++) {
      corners[2 * k] = x + discX(k, half);
      corners[2 * k + 1] = y + discY(k, half);
    }
    return closed(corners);
  }

  private static void join(List<List<long[]>> figures, long[] e, long[] f, long[] how) {
    long x = e[2];
    long y = e[3];
    long half = how[3];
    if (how[1] == 1) {
      figures.add(disc(x, y, half));
      return;
    }
    figures.add(closed(x, y, x - e[5], y + e[4], x - f[5], y + f[4]));
    figures.add(closed(x, y, x + e[5], y - e[4], x + f[5], y - f[4]));
    long u = Math.floorDiv(e[4] * f[4] + e[5] * f[5], ONE);
    long turn = e[4] * f[5] - e[5] * f[4];
    long limit = times(times(Math.floorDiv(2 * ONE * ONE, times(how[2], how[2])) - ONE, half), half);
    if (how[1] == 0 && u >= limit && turn != 0) {
      long k = times(half, half);
      long factor = Math.floorDiv(k * ONE, Math.max(1, k + u));
      long sign = turn > 0 ? -1 : 1;
      figures.add(closed(x, y, x - sign * e[5], y + sign * e[4], x + times(-sign * (e[5] + f[5]), factor),
          y + times(sign * (e[4] + f[4]), factor), x - sign * f[5], y + sign * f[4]));
    }
  }

  // ---- Samples and dots

  private static BigInteger big(long n) {
    return BigInteger.valueOf(n);
  }

  private static Long quotient(long a, long x, long b, long y, long det) {
    BigInteger[] parts = big(a).multiply(big(x)).subtract(big(b).multiply(big(y))).multiply(big(ONE)).divideAndRemainder(big(det));
    BigInteger floor = parts[1].signum() != 0 && parts[1].signum() != Long.signum(det) ? parts[0].subtract(BigInteger.ONE) : parts[0];
    return floor.bitLength() < 32 ? floor.longValue() : null;
  }

  /** The way BACK from a place, or null beyond the bounds. */
  static long[] back(long[] m, long x, long y) {
    long det = m[0] * m[3] - m[1] * m[2];
    Long backX = quotient(m[3], x - m[4], m[2], y - m[5], det);
    Long backY = quotient(m[0], y - m[5], m[1], x - m[4], det);
    return backX == null || backY == null ? null : new long[] {backX, backY};
  }

  static long[] along(long[] m, long x, long y) {
    return new long[] {Math.floorDiv(m[0] * x + m[2] * y, ONE) + m[4], Math.floorDiv(m[1] * x + m[3] * y, ONE) + m[5]};
  }

  /** The sample that the middle of a pixel falls on, or -1: w, h, n are those of the image. */
  static int sample(long[] matrix, long[] z, int[] whn, byte[] bytes, int[] pixel) {
    long[] place = back(matrix, pixel[0] * ONE + ONE / 2, pixel[1] * ONE + ONE / 2);
    if (place == null) {
      return -1;
    }
    long[] spot = along(z, place[0], place[1]);
    long u = Math.floorDiv(spot[0], ONE);
    long v = Math.floorDiv(spot[1], ONE);
    if (u < 0 || u >= whn[0] || v < 0 || v >= whn[1]) {
      return -1;
    }
    int bit = (int) u * whn[2];
    int at = (int) v * ((whn[0] * whn[2] + 7) / 8) + bit / 8;
    return at >= bytes.length ? -1 : (bytes[at] & 255) >> 8 - whn[2] - bit % 8 & (1 << whn[2]) - 1;
  }

  static boolean isDark(long grey, int[] dots, int i, int j) {
    return Math.floorDiv(16 * grey, ONE) <= dots[i % 4 + 4 * (j % 4)];
  }

  static String matrix(long[] six) {
    StringBuilder text = new StringBuilder("[");
    for (long v : six) {
      text.append(number(v)).append(' ');
    }
    return text.append("]").toString();
  }
}
