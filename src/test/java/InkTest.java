import java.util.List;
import java.util.Random;

/** Whole pages compared with the slow model: fills, strokes of several parts, discs and ends to the last bit, images under matrices. */
public final class InkTest {
  private static final long ONE = Ink.ONE;
  private static final String ALL = "-9 -9 moveto 200 -9 lineto 200 200 lineto -9 200 lineto ";

  public static void main(String[] args) {
    Bench b = new Bench("InkTest");
    Random random = new Random(11);
    for (int i = 0; i < 60; i++) {
      fills(b, random, i % 3);
    }
    for (int i = 0; i < 200; i++) {
      strokes(b, random, i % 4);
    }
    throughMiddles(b, random);
    tallEdges(b);
    discs(b);
    straightEnds(b);
    severalParts(b);
    greys(b);
    for (int i = 0; i < 60; i++) {
      images(b, random);
    }
    narrowImages(b);
    greatestImage(b);
    wholePage(b);
    b.close();
  }

  private interface Pixels {
    boolean has(int i, int j);
  }

  private static void compare(Bench b, int width, int height, String text, Pixels pixels) {
    PaintTongue x = Bench.ran(width, height, text);
    b.due("error of " + text, x.look(10), 0);
    StringBuilder want = new StringBuilder();
    for (int j = height - 1; j >= 0; j--) {
      for (int i = 0; i < width; i++) {
        want.append(pixels.has(i, j) ? '#' : '.');
      }
      want.append('\n');
    }
    b.due(text, Bench.rows(x, -1, height), want.toString());
  }

  /** A place on the page, at halves of pixels and one bit beside them, anywhere where a path may be, or always nearly the same. */
  private static long place(Random random, int sort, int side) {
    switch (sort) {
      case 0: return random.nextInt((int) ((side + 4) * ONE)) - 2 * ONE;
      case 1: return (random.nextInt(2 * side + 8) - 4) * ONE / 2 + random.nextInt(3) - 1;
      case 3: return 10 * ONE + random.nextInt(5) - 2;
      default: return random.nextInt(4) > 0 ? random.nextInt((int) (side * ONE)) : random.nextInt((int) (4000 * ONE)) - 2000 * ONE;
    }
  }

  private static Ink.Path path(Random random, int sort, int side, int most) {
    Ink.Path path = new Ink.Path();
    path.move(place(random, sort, side), place(random, sort, side));
    int things = 1 + random.nextInt(most);
    for (int i = 0; i < things; i++) {
      int which = random.nextInt(10);
      long[] six = new long[6];
      for (int k = 0; k < 6; k++) {
        six[k] = place(random, sort, side);
      }
      if (which < 6) {
        path.line(six[0], six[1]);
      } else if (which == 6) {
        path.curve(six);
      } else if (which == 7) {
        path.close();
      } else {
        path.move(six[0], six[1]);
      }
    }
    return path;
  }

  private static void fills(Bench b, Random random, int sort) {
    int width = 8 + random.nextInt(89);
    int height = 8 + random.nextInt(30);
    Ink.Path path = path(random, sort, height, 12);
    List<long[]> edges = Ink.edges(path.parts);
    boolean evenOdd = random.nextBoolean();
    compare(b, width, height, path.text + (evenOdd ? "eofill" : "fill"), (i, j) -> Ink.inside(edges, i, j, evenOdd));
    compare(b, width, height, path.text + (evenOdd ? "eoclip" : "clip") + " newpath " + ALL + "fill", (i, j) -> Ink.inside(edges, i, j, evenOdd));
  }

  private static void strokes(Bench b, Random random, int sort) {
    int side = random.nextInt(4) > 0 ? 20 : 96;
    Ink.Path path = path(random, sort, side, 7);
    int ends = random.nextInt(3);
    int join = random.nextInt(3);
    long width = sort == 1 ? random.nextInt(10) * ONE + random.nextInt(3) : random.nextInt((int) (6 * ONE));
    long miter = random.nextInt(3) == 0 ? 20 * ONE : ONE + random.nextInt((int) (4 * ONE));
    boolean scaled = sort != 1;
    String text = path.text.toString() + ends + " setlinecap " + join + " setlinejoin " + Ink.number(width) + " setlinewidth "
        + Ink.number(miter) + " setmiterlimit " + (scaled ? "1.5 -2 scale " : "") + "stroke";
    List<List<long[]>> figures = Ink.stroke(path.parts, ends, join, miter, Ink.half(width, scaled ? -98304L * 131072 : ONE * ONE));
    compare(b, side, side, text, (i, j) -> figures.stream().anyMatch(f -> Ink.inside(f, i, j, false)));
  }

  /** Edges through the very middle of a pixel, or beside it by one bit. */
  private static void throughMiddles(Bench b, Random random) {
    for (int n = 0; n < 150; n++) {
      long middleX = 4 * ONE + ONE / 2;
      long middleY = random.nextInt(30) * ONE + ONE / 2;
      long dx = random.nextInt(9) - 4;
      long dy = 1 + random.nextInt(4);
      long down = 1 + random.nextInt(n % 2 == 0 ? 100000 : 2000000);
      long up = 1 + random.nextInt(n % 2 == 0 ? 100000 : 2000000);
      long beside = n % 3 - 1;
      Ink.Path path = new Ink.Path();
      path.move(middleX - down * dx + beside, middleY - down * dy);
      path.line(middleX + up * dx + beside, middleY + up * dy);
      path.line((n % 5 == 0 ? -1900 : 1900) * ONE, middleY + up * dy);
      path.line((n % 5 == 0 ? -1900 : 1900) * ONE, middleY - down * dy);
      List<long[]> edges = Ink.edges(path.parts);
      compare(b, 9, 30, path.text + "fill", (i, j) -> Ink.inside(edges, i, j, false));
    }
  }

  /** Edges that come from far below the page. */
  private static void tallEdges(Bench b) {
    for (int low : new int[] {-15, -17, -33, -100, -999, -2000}) {
      for (int slope = -7; slope <= 7; slope += 2) {
        Ink.Path path = new Ink.Path().move(40 * ONE + slope * low * ONE / 20 + 3, low * ONE + 1);
        path.line(40 * ONE + slope * 100 * ONE / 20 + 5, 100 * ONE + 2).line(90 * ONE, 100 * ONE).line(90 * ONE, low * ONE);
        List<long[]> edges = Ink.edges(path.parts);
        compare(b, 96, 96, path.text + "fill", (i, j) -> Ink.inside(edges, i, j, false));
      }
    }
  }

  /** The DISC's 16 corners: each comes close to the middle of a pixel, from all sides. */
  private static void discs(Bench b) {
    for (long half : new long[] {200 * ONE, 199 * ONE + 12345, 3 * ONE + 4321}) {
      for (int k = 0; k < 16; k++) {
        for (int beside = 0; beside < 25; beside++) {
          long unit = half == 200 * ONE ? 50 : 1;
          long x = 4 * ONE + ONE / 2 - Ink.discX(k, half) + (beside % 5 - 2) * unit;
          long y = 4 * ONE + ONE / 2 - Ink.discY(k, half) + (beside / 5 - 2) * unit;
          List<long[]> disc = Ink.disc(x, y, half);
          String text = Ink.number(2 * half) + " setlinewidth 1 setlinecap " + Ink.number(x) + " " + Ink.number(y) + " moveto closepath stroke";
          compare(b, 9, 9, text, (i, j) -> Ink.inside(disc, i, j, false));
        }
      }
    }
  }

  /** The ends of lines along the sides of the page, at the middles of pixels and beside them by one bit. */
  private static void straightEnds(Bench b) {
    for (int ends = 0; ends <= 2; ends += 2) {
      for (int beside = 0; beside < 81; beside++) {
        long low = 3 * ONE + ONE / 2 + beside % 3 - 1;
        long high = 6 * ONE + ONE / 2 + beside / 3 % 3 - 1;
        long across = 5 * ONE + beside / 9 % 3 - 1;
        long width = 3 * ONE + 2 * (beside / 27 % 3 - 1);
        for (int turn = 0; turn < 4; turn++) {
          long from = turn % 2 == 0 ? low : high;
          long to = turn % 2 == 0 ? high : low;
          Ink.Path path = new Ink.Path();
          if (turn < 2) {
            path.move(from, across).line(to, across);
          } else {
            path.move(across, from).line(across, to);
          }
          List<List<long[]>> figures = Ink.stroke(path.parts, ends, 0, 10 * ONE, Ink.half(width, ONE * ONE));
          compare(b, 10, 10, path.text.toString() + ends + " setlinecap " + Ink.number(width) + " setlinewidth stroke",
              (i, j) -> figures.stream().anyMatch(f -> Ink.inside(f, i, j, false)));
        }
      }
    }
  }

  /** No edge of a stroke goes from one part to the next one; each has its own ends, joins and closing. */
  private static void severalParts(Bench b) {
    String left = "2 2 moveto 2 8 lineto ";
    String right = "8 2 moveto 8 8 lineto ";
    String columns = ".##....##.\n";
    String two = "..........\n..........\n" + columns.repeat(6) + "..........\n..........\n";
    String wide = "2 setlinewidth ";
    paints(b, wide + left + right + "stroke", two);
    paints(b, wide + left + "closepath " + right + "closepath stroke", two);
    paints(b, wide + left + "closepath " + right + "stroke", two);
    paints(b, wide + left + "5 5 moveto " + right + "stroke", two);
    paints(b, wide + left + "stroke " + right + "stroke", two);
    paints(b, wide + "2 setlinecap " + left + right + "stroke", "..........\n" + columns.repeat(8) + "..........\n");
    paints(b, wide + "2 setlinecap " + left + "closepath " + right + "stroke",
        "..........\n.......##.\n" + columns.repeat(6) + ".......##.\n..........\n");
    // Behind a CLOSE a line goes on from the MOVE.
    paints(b, wide + "2 5 moveto 6 5 lineto closepath 2 9 lineto stroke",
        "..........\n.##.......\n.##.......\n.##.......\n.#####....\n..####....\n..........\n..........\n..........\n..........\n");
    String point = "4 setlinewidth 1 setlinecap 3 3 moveto closepath 7 7 moveto 7 7 lineto stroke";
    paints(b, point, "..........\n......##..\n.....####.\n.....####.\n......##..\n..##......\n.####.....\n.####.....\n..##......\n..........\n");
  }

  private static void paints(Bench b, String text, String want) {
    PaintTongue x = Bench.ran(10, 10, text);
    b.due("error of " + text, x.look(10), 0);
    b.due(text, Bench.rows(x, -1, 10), want);
  }

  /** The dots come again every four pixels over the widest page, for fills, strokes and masks. */
  private static void greys(Bench b) {
    int[] turned = new int[16];
    StringBuilder row = new StringBuilder("[");
    for (int i = 0; i < 16; i++) {
      turned[i] = (7 * i + 3) % 16;
      row.append(turned[i]).append(' ');
    }
    for (int grey = 0; grey <= 16; grey++) {
      long g = grey * ONE / 16;
      String set = Ink.number(g) + " setgray ";
      compare(b, 96, 12, ALL + "fill " + set + ALL + "fill", (i, j) -> Ink.isDark(g, Ink.DOTS, i, j));
      compare(b, 96, 12, set + row + "] setdots " + ALL + "fill", (i, j) -> Ink.isDark(g, turned, i, j));
      compare(b, 96, 12, set + "40 setlinewidth 0 6 moveto 96 6 lineto stroke", (i, j) -> Ink.isDark(g, Ink.DOTS, i, j));
      compare(b, 96, 12, set + "1 1 true [.01 0 0 .01 0 0] {<80>} imagemask", (i, j) -> Ink.isDark(g, Ink.DOTS, i, j));
    }
  }

  private static long[] matrix(Random random, int bound) {
    long[] six = new long[6];
    for (int i = 0; i < 6; i++) {
      six[i] = random.nextInt((int) (2 * bound * ONE)) - bound * ONE;
      six[i] = i >= 4 ? 5 * six[i] : random.nextInt(3) == 0 ? six[i] / ONE * ONE : six[i];
    }
    if (random.nextInt(3) == 0) {
      six[1] = 0;
      six[2] = 0;
    }
    if (six[0] * six[3] == six[1] * six[2]) {
      six[0] = ONE;
      six[1] = 0;
      six[3] = -ONE;
    }
    return six;
  }

  /** z that brings some of the page's pixels onto the samples: about the MATRIX itself, for the way there and back. */
  private static void images(Bench b, Random random) {
    int[] whn = {1 + random.nextInt(20), 1 + random.nextInt(20), 1 << random.nextInt(4)};
    byte[] bytes = new byte[whn[1] * ((whn[0] * whn[2] + 7) / 8)];
    random.nextBytes(bytes);
    StringBuilder hex = new StringBuilder("<");
    for (byte v : bytes) {
      hex.append(String.format("%02x", v & 255));
    }
    long[] matrix = matrix(random, 2);
    long[] z = matrix.clone();
    z[random.nextInt(6)] += random.nextInt((int) ONE);
    boolean mask = whn[2] == 1 && random.nextBoolean();
    long grey = random.nextInt((int) ONE);
    String text = Ink.number(grey) + " setgray " + ALL + "fill 0 setgray " + Ink.matrix(matrix) + " setmatrix " + Ink.number(grey) + " setgray "
        + whn[0] + " " + whn[1] + " " + (mask ? "false" : whn[2] + "") + " " + Ink.matrix(z) + " {" + hex + ">} " + (mask ? "imagemask" : "image");
    if (bytes.length > 400) {
      return;
    }
    compare(b, 30, 24, text, (i, j) -> {
      int sample = Ink.sample(matrix, z, whn, bytes, new int[] {i, j});
      boolean painted = sample >= 0 && (!mask || sample == 0);
      return Ink.isDark(painted && !mask ? sample * ONE / ((1 << whn[2]) - 1) : grey, Ink.DOTS, i, j);
    });
  }

  /** Rows of one bit, and of one bit more than a byte has. */
  private static void narrowImages(Bench b) {
    for (int w : new int[] {1, 2, 7, 8, 9, 15, 16, 17}) {
      for (int n : new int[] {1, 2, 4, 8}) {
        int each = (w * n + 7) / 8;
        byte[] bytes = new byte[5 * each];
        StringBuilder hex = new StringBuilder();
        for (int i = 0; i < bytes.length; i++) {
          bytes[i] = (byte) (i * 89 + 7 * w + n);
          hex.append(String.format("%02x", bytes[i] & 255));
        }
        long[] same = {ONE, 0, 0, ONE, 0, 0};
        compare(b, 20, 8, w + " 5 " + n + " matrix {<" + hex + ">} image", (i, j) -> {
          int sample = Ink.sample(same, same, new int[] {w, 5, n}, bytes, new int[] {i, j});
          return sample >= 0 && Ink.isDark(sample * ONE / ((1 << n) - 1), Ink.DOTS, i, j);
        });
      }
    }
  }

  /** 64 by 64 samples of 8 bits come in strings of 500 bytes, whose last one has more than is wanted. */
  private static void greatestImage(Bench b) {
    byte[] bytes = new byte[4096];
    for (int i = 0; i < 4096; i++) {
      bytes[i] = (byte) (i % 500 * 3 + i / 500 * 7);
    }
    long[] same = {ONE, 0, 0, ONE, 0, 0};
    String text = "/s 500 string def /k 0 def /n 0 def 64 64 8 matrix {0 1 499 {s exch dup 3 mul k add put} for /k k 7 add def /n n 1 add def s} image n 9 ne {none} if";
    compare(b, 70, 70, text, (i, j) -> {
      int sample = Ink.sample(same, same, new int[] {64, 64, 8}, bytes, new int[] {i, j});
      return sample >= 0 && Ink.isDark(sample * ONE / 255, Ink.DOTS, i, j);
    });
  }

  /** An image that goes beyond all sides of the greatest page. */
  private static void wholePage(Bench b) {
    byte[] bytes = new byte[64 * 8];
    StringBuilder text = new StringBuilder("/s 8 string def /k 0 def 64 64 1 [.5 0 0 .5 3.25 5.75] {0 1 7 {s exch dup 37 mul k add put} for /k k 11 add def s} image");
    for (int i = 0; i < bytes.length; i++) {
      bytes[i] = (byte) (i % 8 * 37 + i / 8 * 11);
    }
    long[] same = {ONE, 0, 0, ONE, 0, 0};
    long[] z = {ONE / 2, 0, 0, ONE / 2, 13 * ONE / 4, 23 * ONE / 4};
    compare(b, 96, 96, text.toString(), (i, j) -> Ink.sample(same, z, new int[] {64, 64, 1}, bytes, new int[] {i, j}) == 0);
  }
}
