import java.math.BigInteger;
import java.util.ArrayList;
import java.util.List;
import java.util.Random;

/** PART 5's painting: what is inside, dots, clips, strokes, images; a slow model of it is in this test. */
public final class PaintTest {
  private static final int[] CIRCLE = {65536, 60547, 46341, 25080, 0, -25080, -46341, -60547, -65536, -60547, -46341, -25080,
      0, 25080, 46341, 60547};

  public static void main(String[] args) {
    Bench b = new Bench("PaintTest");
    fills(b);
    costs(b);
    dots(b);
    clips(b);
    strokes(b);
    pagesOut(b);
    images(b);
    imageErrors(b);
    masks(b);
    Random random = new Random(7);
    for (int i = 0; i < 120; i++) {
      compareFill(b, random);
      compareStroke(b, random, false);
    }
    for (int i = 0; i < 30; i++) {
      compareStroke(b, random, true);
    }
    b.close();
  }

  private static void shows(Bench b, int side, String text, String want) {
    PaintTongue x = Bench.ran(side, side, text);
    b.due("error of " + text, x.look(10), 0);
    b.due(text, Bench.rows(x, -1, side), want);
  }

  private static void fills(Bench b) {
    shows(b, 8, "1 1 moveto 5 1 lineto 5 4 lineto 1 4 lineto fill",
        "........\n........\n........\n........\n.####...\n.####...\n.####...\n........\n");
    String nested = "0 0 moveto 6 0 lineto 6 6 lineto 0 6 lineto closepath 2 2 moveto 4 2 lineto 4 4 lineto 2 4 lineto ";
    shows(b, 8, nested + "fill", "........\n........\n######..\n######..\n######..\n######..\n######..\n######..\n");
    shows(b, 8, nested + "eofill", "........\n........\n######..\n######..\n##..##..\n##..##..\n######..\n######..\n");
    shows(b, 8, "0 0 moveto 6 0 lineto 6 6 lineto 0 6 lineto closepath 2 2 moveto 2 4 lineto 4 4 lineto 4 2 lineto fill",
        "........\n........\n######..\n######..\n##..##..\n##..##..\n######..\n######..\n");
    // An edge through a pixel's middle: that pixel is at the edge's left, the lower place counts, the higher doesn't.
    shows(b, 8, "1.5 1.5 moveto 3.5 1.5 lineto 3.5 3.5 lineto 1.5 3.5 lineto fill",
        "........\n........\n........\n........\n........\n..##....\n..##....\n........\n");
    shows(b, 8, "fill 3 3 moveto fill 1 1 moveto 5 5 lineto fill", "........\n".repeat(8));
    b.due("no path behind fill", Bench.ran("1 1 moveto 2 2 lineto fill").look(16), 0);
  }

  private static void costs(Bench b) {
    String triangle = "1 1 moveto 5 1 lineto 5 5 lineto ";
    b.due("fill", Bench.ran(triangle + "fill").look(11), 10 + 3);
    b.due("fill of two parts", Bench.ran(triangle + "closepath 7 7 moveto fill").look(11), 14 + 4);
    b.due("eofill of a curve", Bench.ran("1 1 moveto 1 2 3 4 5 6 curveto eofill").look(11), 11 + 9);
    b.due("clip", Bench.ran(triangle + "clip").look(11), 10 + 3);
    b.due("stroke", Bench.ran(triangle + "stroke").look(11), 10 + 60);
    b.due("fill without a path", Bench.ran("fill").look(11), 1);
  }

  private static void dots(Bench b) {
    String box = "0 0 moveto 8 0 lineto 8 8 lineto 0 8 lineto fill";
    int[] due = {64, 60, 56, 32, 4, 0};
    String[] greys = {"0", ".0625", ".125", ".5", ".9375", "1"};
    for (int i = 0; i < due.length; i++) {
      b.due("grey " + greys[i], Bench.ran(8, 8, greys[i] + " setgray " + box).look(13), due[i]);
    }
    shows(b, 8, ".9375 setgray " + box, "#...#...\n........\n........\n........\n#...#...\n........\n........\n........\n");
    shows(b, 8, "[15 14 13 12 11 10 9 8 7 6 5 4 3 2 1 0] setdots .75 setgray " + box,
        "........\n........\n........\n########\n........\n........\n........\n########\n");
    shows(b, 8, box + " .5 setgray " + box.replace('8', '2'),
        "########\n########\n########\n########\n########\n########\n#.######\n.#######\n");
  }

  private static void clips(Bench b) {
    String box = "0 0 moveto 8 0 lineto 8 8 lineto 0 8 lineto ";
    PaintTongue x = Bench.ran(8, 8, "1 1 moveto 4 1 lineto 4 4 lineto 1 4 lineto clip");
    b.due("pixels in the clip", x.look(14), 9);
    b.due("the path stays", x.look(12), 4);
    Bench.more(x, "newpath 2 0 moveto 9 0 lineto 9 9 lineto 2 9 lineto clip newpath " + box + "fill");
    b.due("what is in both", x.look(14), 6);
    b.due("is painted", x.look(13), 6);
    Bench.more(x, "initclip " + box + "fill");
    b.due("all", x.look(13), 64);
    b.due("a clip without a path", Bench.ran("clip").look(14), 0);
    x = Bench.ran(8, 8, box + "2 2 moveto 4 2 lineto 4 4 lineto 2 4 lineto eoclip");
    b.due("even-odd", x.look(14), 60);
    x = Bench.ran(8, 8, "gsave 1 1 moveto 4 1 lineto 4 4 lineto clip grestore");
    b.due("kept with the graphics", x.look(14), 64);
    x = Bench.ran(8, 8, "1 1 moveto 4 1 lineto 4 4 lineto clip erasepage newpath " + box + "fill initgraphics erasepage");
    b.due("erasepage takes no clip", x.look(13), 0);
  }

  private static void strokes(Bench b) {
    shows(b, 8, "1 4 moveto 6 4 lineto 2 setlinewidth stroke",
        "........\n........\n........\n.#####..\n.#####..\n........\n........\n........\n");
    shows(b, 8, "2 4 moveto 5 4 lineto 2 setlinewidth 2 setlinecap stroke",
        "........\n........\n........\n.#####..\n.#####..\n........\n........\n........\n");
    shows(b, 8, "1 1 moveto 6 1 lineto 6 6 lineto 2 setlinewidth 2 setlinejoin stroke",
        "........\n........\n.....##.\n.....##.\n.....##.\n.....##.\n.######.\n.######.\n");
    shows(b, 8, "1 1 moveto 6 1 lineto 6 6 lineto 2 setlinewidth stroke",
        "........\n........\n.....##.\n.....##.\n.....##.\n.....##.\n.######.\n.######.\n");
    shows(b, 8, "4 4 moveto 4 4 lineto 3 setlinewidth 1 setlinecap stroke",
        "........\n........\n........\n...##...\n...##...\n........\n........\n........\n");
    b.due("a lone move", Bench.ran("4 4 moveto 5 setlinewidth 1 setlinecap stroke").look(13), 0);
    b.due("a point without round ends", Bench.ran("4 4 moveto closepath 5 setlinewidth stroke").look(13), 0);
    b.due("a closed point with round ends", Bench.ran("4 4 moveto closepath 4 setlinewidth 1 setlinecap stroke").look(13), 12);
    b.due("no path behind stroke", Bench.ran("1 1 moveto 2 2 lineto stroke").look(16), 0);
    b.due("a line of no width is half a pixel's", Bench.ran("0 .5 moveto 9 .5 lineto 0 setlinewidth stroke").look(13), 9);
  }

  private static void pagesOut(Bench b) {
    PaintTongue x = Bench.ran(8, 8, ".5 setgray 0 0 moveto 8 0 lineto 8 8 lineto 0 8 lineto fill 1 1 moveto showpage");
    b.due("the page is out", x.look(9), 1);
    b.due("erased", x.look(13), 0);
    b.due("initgraphics", x.graphics(8), 0);
    b.due("no path", x.look(16), 0);
    b.due("what was painted", x.pixel(0, 0, 0) + x.pixel(0, 1, 0), 1);
  }

  private static void images(Bench b) {
    shows(b, 8, "4 2 1 [1 0 0 1 0 0] {<50a0>} image",
        "........\n........\n........\n........\n........\n........\n.#.#....\n#.#.....\n");
    shows(b, 8, "4 2 1 [.5 0 0 .5 0 0] {<50a0>} image",
        "........\n........\n........\n........\n..##..##\n..##..##\n##..##..\n##..##..\n");
    // Grey samples of two, four and eight bits: 0 is black, the greatest is white.
    shows(b, 8, "4 1 2 matrix {<33>} image", "........\n".repeat(7) + "#.#.....\n");
    shows(b, 8, "2 1 4 matrix {<0f>} image", "........\n".repeat(7) + "#.......\n");
    shows(b, 8, "2 1 8 matrix {<00>} image", "........\n".repeat(7) + "##......\n");
    // Bytes come by ones, further ones are passed; an empty string is the end.
    shows(b, 8, "/n 0 def 8 3 1 matrix {/n n 1 add def n 1 eq {<00>} {<0f00ffff>} ifelse} image n =",
        "........\n........\n........\n........\n........\n########\n####....\n########\n");
    shows(b, 8, "/n 0 def 8 3 1 matrix {/n n 1 add def n 1 eq {<00>} {<>} ifelse} image",
        "........\n".repeat(7) + "########\n");
    shows(b, 8, "[2 0 0 2 1 1] setmatrix 2 2 1 [1 0 0 1 0 0] {<0000>} image",
        "........\n........\n........\n.####...\n.####...\n.####...\n.####...\n........\n");
    PaintTongue x = Bench.ran(8, 8, "4 3 1 matrix {<000000>} image");
    b.due("steps: five operands, image, a turn, a string, three rows", x.look(11), 6 + 2 + 3);
    x = Bench.ran(8, 8, "8 8 1 matrix {0 0 moveto 2 0 lineto 2 2 lineto 0 2 lineto clip "
        + "[9 0 0 9 9 9] setmatrix <0000000000000000>} image");
    b.due("the clip of when it paints, the matrix of when it began", x.look(13), 4);
  }

  private static void imageErrors(Bench b) {
    b.fails("0 1 1 matrix {} image", 4, "image", "0:0 0:1 0:1 9:6 9:0x");
    b.fails("1 65 1 matrix {} image", 4, "image", "0:1 0:65 0:1 9:6 9:0x");
    b.fails("1 1 3 matrix {} image", 4, "image", "0:1 0:1 0:3 9:6 9:0x");
    b.fails("1 1 1 [1] {} image", 4, "image", "0:1 0:1 0:1 9:1 9:0x");
    b.fails("1.0 1 1 [1] {} image", 3, "image", "1:65536 0:1 0:1 9:1 9:0x");
    b.fails("1 1 1 matrix [] image", 3, "image", "0:1 0:1 0:1 9:6 9:0");
    b.fails("[1 1 1 1 0 0] setmatrix 1 1 1 matrix {} image", 6, "image", "0:1 0:1 0:1 9:6 9:0x");
    b.fails("1 1 true 1 1 1 matrix {} imagemask", 3, "imagemask", "0:1 0:1 2:1 0:1 0:1 0:1 9:6 9:0x");
    b.fails("1 1 1 matrix {} image", 1, "image", "");
    b.fails("1 1 1 matrix {5} image", 3, "image", "0:5");
    b.fails("1 1 1 matrix {exit} image", 11, "exit", "");
    PaintTongue x = Bench.ran("{1 1 1 matrix {clear} image} stopped");
    b.due("nothing is painted then", x.look(13), 0);
    b.due("it can be caught", Bench.operands(x), "2:1");
    b.due("nothing is under way", x.look(2), 0);
  }

  private static void masks(Bench b) {
    shows(b, 8, "4 1 true matrix {<50>} imagemask", "........\n".repeat(7) + ".#.#....\n");
    shows(b, 8, "4 1 false matrix {<50>} imagemask", "........\n".repeat(7) + "#.#.....\n");
    shows(b, 8, "0 0 moveto 8 0 lineto 8 1 lineto 0 1 lineto fill 1 setgray 4 1 true matrix {0 setgray <50>} imagemask",
        "........\n".repeat(7) + "#.#.####\n");
  }

  // ---- The slow model

  private static String number(long v) {
    BigInteger tenths = BigInteger.valueOf(v).multiply(BigInteger.TEN.pow(16)).shiftRight(16);
    String digits = tenths.abs().toString();
    while (digits.length() < 17) {
      digits = "0" + digits;
    }
    int point = digits.length() - 16;
    return (v < 0 ? "-" : "") + digits.substring(0, point) + "." + digits.substring(point);
  }

  private static boolean inside(List<long[]> edges, int i, int j, boolean evenOdd) {
    long x = i * 65536L + 32768;
    long y = j * 65536L + 32768;
    int sum = 0;
    int met = 0;
    for (long[] e : edges) {
      boolean up = e[1] < e[3];
      long lowX = up ? e[0] : e[2];
      long lowY = up ? e[1] : e[3];
      long highX = up ? e[2] : e[0];
      long highY = up ? e[3] : e[1];
      if (lowY <= y && highY > y) {
        BigInteger side = BigInteger.valueOf(lowX - x).multiply(BigInteger.valueOf(highY - lowY))
            .add(BigInteger.valueOf(highX - lowX).multiply(BigInteger.valueOf(y - lowY)));
        if (side.signum() >= 0) {
          sum += up ? 1 : -1;
          met++;
        }
      }
    }
    return evenOdd ? met % 2 == 1 : sum != 0;
  }

  private static List<long[]> closed(long... corners) {
    List<long[]> edges = new ArrayList<>();
    for (int i = 0; i < corners.length; i += 2) {
      int k = (i + 2) % corners.length;
      edges.add(new long[] {corners[i], corners[i + 1], corners[k], corners[k + 1]});
    }
    return edges;
  }

  private static void compareFill(Bench b, Random random) {
    int corners = 3 + random.nextInt(6);
    boolean evenOdd = random.nextBoolean();
    long[] places = new long[2 * corners];
    StringBuilder text = new StringBuilder();
    for (int i = 0; i < corners; i++) {
      boolean whole = random.nextInt(3) == 0;
      for (int k = 0; k < 2; k++) {
        places[2 * i + k] = whole ? (random.nextInt(50) - 4) * 32768L : random.nextInt(24 * 65536) - 2 * 65536;
        text.append(number(places[2 * i + k])).append(' ');
      }
      text.append(i == 0 ? "moveto " : "lineto ");
    }
    text.append(evenOdd ? "eofill" : "fill");
    List<long[]> edges = closed(places);
    compare(b, text.toString(), (i, j) -> inside(edges, i, j, evenOdd));
  }

  private interface Pixels {
    boolean has(int i, int j);
  }

  private static void compare(Bench b, String text, Pixels pixels) {
    PaintTongue x = Bench.ran(20, 20, text);
    b.due("error of " + text, x.look(10), 0);
    StringBuilder want = new StringBuilder();
    for (int j = 19; j >= 0; j--) {
      for (int i = 0; i < 20; i++) {
        want.append(pixels.has(i, j) ? '#' : '.');
      }
      want.append('\n');
    }
    b.due(text, Bench.rows(x, -1, 20), want.toString());
  }

  private static long floorRoot(BigInteger n) {
    return n.sqrt().longValueExact();
  }

  private static long times(long a, long b) {
    return Math.floorDiv(Math.multiplyExact(a, b), 65536L);
  }

  /** A stroke of straight lines under a matrix that scales; tiny edges make the widest figures. */
  private static void compareStroke(Bench b, Random random, boolean tiny) {
    int corners = 2 + random.nextInt(4);
    long[] places = new long[2 * corners];
    StringBuilder text = new StringBuilder();
    for (int i = 0; i < corners; i++) {
      for (int k = 0; k < 2; k++) {
        places[2 * i + k] = tiny && i > 0 ? places[2 * i - 2 + k] + random.nextInt(5) - 2
            : (random.nextInt(3) == 0 ? random.nextInt(20) * 65536L : random.nextInt(20 * 65536));
        text.append(number(places[2 * i + k])).append(' ');
      }
      text.append(i == 0 ? "moveto " : "lineto ");
    }
    boolean close = random.nextBoolean();
    int ends = random.nextInt(3);
    int join = random.nextInt(3);
    long width = random.nextInt(5) * 65536L + random.nextInt(65536);
    long miter = random.nextInt(3) == 0 ? 20 * 65536L : 65536 + random.nextInt(4 * 65536);
    text.append(close ? "closepath " : "").append(ends).append(" setlinecap ").append(join).append(" setlinejoin ");
    text.append(number(width)).append(" setlinewidth ").append(number(miter)).append(" setmiterlimit 1.5 -2 scale stroke");
    long scale = floorRoot(BigInteger.valueOf(98304L * 131072));
    long half = Math.max(16384, Math.min(200 * 65536L, Math.floorDiv(times(width, scale), 2L)));
    List<List<long[]>> figures = stroke(places, close, ends, join, miter, half);
    compare(b, text.toString(), (i, j) -> figures.stream().anyMatch(f -> inside(f, i, j, false)));
  }

  private static List<List<long[]>> stroke(long[] places, boolean close, int ends, int join, long miter, long half) {
    List<long[]> edges = new ArrayList<>();
    int n = places.length / 2;
    for (int i = 0; i < (close ? n : n - 1); i++) {
      int k = (i + 1) % n;
      long dx = places[2 * k] - places[2 * i];
      long dy = places[2 * k + 1] - places[2 * i + 1];
      if (dx != 0 || dy != 0) {
        long length = Math.max(1, floorRoot(BigInteger.valueOf(dx * dx + dy * dy)));
        edges.add(new long[] {places[2 * i], places[2 * i + 1], places[2 * k], places[2 * k + 1],
            Math.floorDiv(dx * half, length), Math.floorDiv(dy * half, length)});
      }
    }
    List<List<long[]>> figures = new ArrayList<>();
    if (edges.isEmpty()) {
      if (ends == 1) {
        figures.add(disc(places[0], places[1], half));
      }
      return figures;
    }
    for (int i = 0; i < edges.size(); i++) {
      long[] e = edges.get(i);
      boolean first = !close && ends == 2 && i == 0;
      boolean last = !close && ends == 2 && i == edges.size() - 1;
      long px = e[0] - (first ? e[4] : 0);
      long py = e[1] - (first ? e[5] : 0);
      long qx = e[2] + (last ? e[4] : 0);
      long qy = e[3] + (last ? e[5] : 0);
      figures.add(closed(px - e[5], py + e[4], px + e[5], py - e[4], qx + e[5], qy - e[4], qx - e[5], qy + e[4]));
      if (i + 1 < edges.size() || close) {
        join(figures, e, edges.get((i + 1) % edges.size()), join, miter, half);
      }
    }
    if (!close && ends == 1) {
      long[] e = edges.get(edges.size() - 1);
      figures.add(disc(edges.get(0)[0], edges.get(0)[1], half));
      figures.add(disc(e[2], e[3], half));
    }
    return figures;
  }

  private static List<long[]> disc(long x, long y, long half) {
    long[] corners = new long[32];
    for (int k = 0; k < 16; k++) {
      corners[2 * k] = x + times(half, CIRCLE[k]);
      corners[2 * k + 1] = y + times(half, CIRCLE[(k + 12) % 16]);
    }
    return closed(corners);
  }

  private static void join(List<List<long[]>> figures, long[] e, long[] f, int join, long miter, long half) {
    long x = e[2];
    long y = e[3];
    if (join == 1) {
      figures.add(disc(x, y, half));
      return;
    }
    figures.add(closed(x, y, x - e[5], y + e[4], x - f[5], y + f[4]));
    figures.add(closed(x, y, x + e[5], y - e[4], x + f[5], y - f[4]));
    long u = Math.floorDiv(e[4] * f[4] + e[5] * f[5], 65536L);
    long turn = e[4] * f[5] - e[5] * f[4];
    long limit = times(times(Math.floorDiv(2L * 65536 * 65536, times(miter, miter)) - 65536, half), half);
    if (join == 0 && u >= limit && turn != 0) {
      long k = times(half, half);
      long factor = Math.floorDiv(k * 65536, Math.max(1, k + u));
      long sign = turn > 0 ? -1 : 1;
      figures.add(closed(x, y, x - sign * e[5], y + sign * e[4], x + times(-sign * (e[5] + f[5]), factor),
          y + times(sign * (e[4] + f[4]), factor), x - sign * f[5], y + sign * f[4]));
    }
  }
}
