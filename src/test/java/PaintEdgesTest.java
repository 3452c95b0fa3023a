/** The boundary cases that PART 5 names of painting: what is inside, dots, clips, strokes, pages, images. */
public final class PaintEdgesTest {
  private static final int[] DOTS = {0, 8, 2, 10, 12, 4, 14, 6, 3, 11, 1, 9, 15, 7, 13, 5};
  private static final String ALL = "-9 -9 moveto 200 -9 lineto 200 200 lineto -9 200 lineto ";
  private static final String PART = ".0000152587890625";

  public static void main(String[] args) {
    Bench b = new Bench("PaintEdgesTest");
    boxes(b);
    slants(b);
    windings(b);
    beyondThePage(b);
    parts(b);
    greys(b);
    clips(b);
    widths(b);
    greatestWidth(b);
    scaledWidths(b);
    points(b);
    closedStrokes(b);
    mitres(b);
    pages(b);
    imageBounds(b);
    imageBytes(b);
    imageEdges(b);
    imageSamples(b);
    imageWayBack(b);
    imageTimes(b);
    imageErrors(b);
    masks(b);
    b.close();
  }

  private static String box(String x, String y, String right, String top) {
    return x + " " + y + " moveto " + right + " " + y + " lineto " + right + " " + top + " lineto " + x + " " + top + " lineto ";
  }

  private static void inks(Bench b, int width, int height, String text, String want) {
    PaintTongue x = Bench.ran(width, height, text);
    b.due("error of " + text, x.look(10), 0);
    b.due(text, Bench.rows(x, -1, height), want);
  }

  /** A page of eight by eight whose pixels i, j are 1 from one to another one, both within. */
  private static String block(int left, int low, int right, int high) {
    StringBuilder all = new StringBuilder();
    for (int j = 7; j >= 0; j--) {
      for (int i = 0; i < 8; i++) {
        all.append(i >= left && i <= right && j >= low && j <= high ? '#' : '.');
      }
      all.append('\n');
    }
    return all.toString();
  }

  /** The lower place is not above M, the higher one is; the edge is at M or to the right of it. */
  private static void boxes(Bench b) {
    for (String op : new String[] {"fill", "eofill"}) {
      inks(b, 8, 8, box("1.5", "1.5", "4.5", "4.5") + op, block(2, 1, 4, 3));
      inks(b, 8, 8, box("1.49999", "1.49999", "4.49999", "4.49999") + op, block(1, 1, 3, 3));
      inks(b, 8, 8, box("1.50002", "1.50002", "4.50002", "4.50002") + op, block(2, 2, 4, 4));
      inks(b, 8, 8, box("1", "1", "4", "4") + op, block(1, 1, 3, 3));
      // The other way round.
      inks(b, 8, 8, "1.5 1.5 moveto 1.5 4.5 lineto 4.5 4.5 lineto 4.5 1.5 lineto " + op, block(2, 1, 4, 3));
      inks(b, 8, 8, box("2.5", "1", "2.5", "5") + op, block(1, 1, 0, 0));
      inks(b, 8, 8, box("2.4", "2.4", "2.6", "2.6") + op, block(2, 2, 2, 2));
      inks(b, 8, 8, box("2.5", "2.4", "2.6", "2.6") + op, block(1, 1, 0, 0));
      inks(b, 8, 8, box("2.4", "2.5", "2.5", "2.6") + op, block(2, 2, 2, 2));
      inks(b, 8, 8, box("2.4", "2.4", "2.6", "2.5") + op, block(1, 1, 0, 0));
    }
  }

  /** An edge through the middles of pixels. */
  private static void slants(Bench b) {
    inks(b, 8, 8, "0 0 moveto 4 4 lineto 4 0 lineto fill",
        "........\n........\n........\n........\n........\n...#....\n..##....\n.###....\n");
    inks(b, 8, 8, "0 0 moveto 4 4 lineto 0 4 lineto fill",
        "........\n........\n........\n........\n####....\n###.....\n##......\n#.......\n");
    inks(b, 8, 8, "0 4 moveto 4 0 lineto 4 4 lineto fill",
        "........\n........\n........\n........\n.###....\n..##....\n...#....\n........\n");
    inks(b, 8, 8, "0 4 moveto 4 0 lineto 0 0 lineto fill",
        "........\n........\n........\n........\n#.......\n##......\n###.....\n####....\n");
    inks(b, 8, 8, PART + " 0 moveto 4" + PART + " 4 lineto 4" + PART + " 0 lineto fill",
        "........\n........\n........\n........\n........\n...#....\n..##....\n.###....\n");
    inks(b, 8, 8, "-" + PART + " 0 moveto 3.99999 4 lineto 4 0 lineto fill",
        "........\n........\n........\n........\n...#....\n..##....\n.###....\n####....\n");
  }

  /** The sum isn't 0; EVEN-ODD: how many these are is odd. */
  private static void windings(Bench b) {
    String twice = box("1", "1", "7", "7") + "closepath " + box("3", "3", "5", "5");
    inks(b, 8, 8, twice + "fill", block(1, 1, 6, 6));
    String against = box("1", "1", "7", "7") + "closepath 3 3 moveto 3 5 lineto 5 5 lineto 5 3 lineto ";
    String hollow = "........\n.######.\n.######.\n.##..##.\n.##..##.\n.######.\n.######.\n........\n";
    inks(b, 8, 8, twice + "eofill", hollow);
    inks(b, 8, 8, against + "fill", hollow);
    inks(b, 8, 8, against + "eofill", hollow);
    inks(b, 8, 8, twice + "closepath " + box("3", "3", "5", "5") + "fill", block(1, 1, 6, 6));
    inks(b, 8, 8, twice + "closepath " + box("3", "3", "5", "5") + "eofill", block(1, 1, 6, 6));
    inks(b, 8, 8, twice + "closepath 3 3 moveto 3 5 lineto 5 5 lineto 5 3 lineto closepath 3 3 moveto 3 5 lineto 5 5 lineto 5 3 lineto fill", hollow);
  }

  /** Edges beyond the page count where they are to the right of a pixel. */
  private static void beyondThePage(Bench b) {
    inks(b, 8, 8, box("-50", "2", "3", "5") + "fill", block(0, 2, 2, 4));
    inks(b, 8, 8, box("5", "2", "90", "5") + "fill", block(5, 2, 7, 4));
    inks(b, 8, 8, box("2", "-50", "5", "3") + "fill", block(2, 0, 4, 2));
    inks(b, 8, 8, box("2", "5", "5", "90") + "fill", block(2, 5, 4, 7));
    inks(b, 8, 8, box("-2000", "-2000", "2000", "2000") + "fill", block(0, 0, 7, 7));
    inks(b, 8, 8, box("-9", "-9", "-1", "20") + "fill", block(1, 1, 0, 0));
    inks(b, 8, 8, box("8", "-9", "20", "20") + "fill", block(1, 1, 0, 0));
    inks(b, 8, 8, box("7.5", "-9", "20", "20") + "fill", block(1, 1, 0, 0));
    inks(b, 8, 8, box("7.49999", "7.5", "20", "20") + "fill", block(7, 7, 7, 7));
    inks(b, 8, 8, box("-9", "-9", "0.5", "0.50002") + "fill", block(0, 0, 0, 0));
    for (int side : new int[] {8, 31, 32, 33, 63, 64, 65, 95, 96}) {
      PaintTongue x = Bench.ran(side, 104 - side, ALL + "fill");
      int height = Math.max(8, Math.min(96, 104 - side));
      b.due("all of " + side, x.look(13), side * height);
      x = Bench.ran(side, 8, box((side - 1) + "", "0", side + "", "8") + "fill");
      b.due("the last column of " + side, x.look(13) * 10 + x.pixel(-1, side - 1, 7), 81);
    }
  }

  /** Each part is closed by itself; a part of a MOVE alone, or of one line, has nothing inside. */
  private static void parts(Bench b) {
    inks(b, 8, 8, "1 1 moveto 3 1 lineto 3 3 lineto 1 3 lineto 5 5 moveto 7 5 lineto 7 7 lineto 5 7 lineto fill",
        "........\n.....##.\n.....##.\n........\n........\n.##.....\n.##.....\n........\n");
    inks(b, 8, 8, "fill 3 3 moveto fill 3 3 moveto closepath fill 1 1 moveto 7 7 lineto fill 1 1 moveto 7 7 lineto closepath eofill", block(1, 1, 0, 0));
    inks(b, 8, 8, "1 1 moveto 4 1 lineto 4 4 lineto closepath 1 4 lineto 4 4 lineto fill",
        block(1, 1, 3, 3));
    // What an earlier path had is no matter of a later, shorter one.
    String longer = "0 0 moveto 7 0 lineto 7 7 lineto 3 5 lineto 0 7 lineto 1 1 lineto 6 6 lineto ";
    for (String op : new String[] {"fill", "eofill", "clip newpath " + ALL + "fill"}) {
      inks(b, 8, 8, longer + "fill erasepage " + box("2", "2", "5", "5") + op, block(2, 2, 4, 4));
      inks(b, 8, 8, longer + "closepath 1 1 lineto fill erasepage " + box("2", "2", "5", "5") + op, block(2, 2, 4, 4));
    }
    inks(b, 8, 8, longer + "stroke erasepage 2 setlinewidth 2 4 moveto 6 4 lineto stroke", block(2, 3, 5, 4));
    for (String op : new String[] {"fill", "eofill", "stroke"}) {
      b.due("no path behind " + op, Bench.ran("1 1 moveto 2 2 lineto " + op).look(12), 0);
    }
    for (String op : new String[] {"clip", "eoclip"}) {
      b.due("the path stays behind " + op, Bench.ran("1 1 moveto 2 2 lineto " + op).look(12), 2);
    }
  }

  /** 1, if the whole part of 16 g is not above the DOT (i modulo 4) + 4 (j modulo 4), else 0. */
  private static void greys(Bench b) {
    for (int v = 0; v <= 16; v++) {
      for (int less = 0; less <= 1 && v - less >= 0; less++) {
        String grey = less == 0 ? v / 16.0 + "" : v / 16.0 + " " + PART + " sub";
        PaintTongue x = Bench.ran(9, 11, grey + " setgray " + ALL + "fill");
        b.due("grey of " + grey, x.graphics(8), v * 4096 - less);
        for (int i = 0; i < 9; i++) {
          for (int j = 0; j < 11; j++) {
            b.due("grey " + grey + " at " + i + ", " + j, x.pixel(-1, i, j), v - less <= DOTS[i % 4 + 4 * (j % 4)] ? 1 : 0);
          }
        }
        Bench.more(x, "0 setgray " + ALL + "fill 1 setgray " + ALL + "fill");
        b.due("white over black", x.look(13), 0);
      }
    }
  }

  /** In the CLIP alone; it is a set of pixels, all at first. */
  private static void clips(Bench b) {
    inks(b, 8, 8, box("2", "2", "5", "5") + "clip newpath " + ALL + "fill", block(2, 2, 4, 4));
    inks(b, 8, 8, box("1.5", "1.5", "4.5", "4.5") + "clip newpath " + ALL + "fill", block(2, 1, 4, 3));
    inks(b, 8, 8, box("2", "2", "5", "5") + "clip newpath " + box("4", "4", "7", "7") + "clip newpath " + ALL + "fill", block(4, 4, 4, 4));
    inks(b, 8, 8, box("2", "2", "4", "4") + "clip newpath " + box("4", "4", "7", "7") + "clip newpath " + ALL + "fill", block(1, 1, 0, 0));
    inks(b, 8, 8, "clip " + ALL + "fill", block(1, 1, 0, 0));
    inks(b, 8, 8, "eoclip " + ALL + "fill initclip " + box("2", "2", "5", "5") + "fill", block(2, 2, 4, 4));
    inks(b, 8, 8, "3 3 moveto clip newpath " + ALL + "fill", block(1, 1, 0, 0));
    inks(b, 8, 8, box("2", "2", "5", "5") + "clip newpath 4 setlinewidth 0 4 moveto 8 4 lineto stroke", block(2, 2, 4, 4));
    inks(b, 8, 8, box("2", "2", "5", "5") + "clip newpath 8 8 1 matrix {8 string} image", block(2, 2, 4, 4));
    inks(b, 8, 8, ALL + "fill " + box("2", "2", "5", "5") + "clip erasepage", block(1, 1, 0, 0));
    PaintTongue x = Bench.ran(8, 8, box("1", "1", "7", "7") + "closepath " + box("3", "3", "5", "5") + "gsave eoclip");
    b.due("even-odd", x.look(14), 32);
    Bench.more(x, "grestore clip");
    b.due("not even-odd", x.look(14), 36);
  }

  /** HALF is at least 1/4. */
  private static void widths(Bench b) {
    String[][] lines = {{"0", ".25", "0"}, {"0", ".26", "8"}, {"0", ".75", "8"}, {"0", ".76", "0"}, {".5", ".25", "0"}, {".5", ".75", "8"},
        {".5", ".76", "0"}, {".52", ".25", "8"}, {".52", ".75", "8"}, {".52", ".76", "8"}, {".52", ".77", "0"}, {"1", ".5", "8"}, {"1", "0", "0"},
        {"1", ".00002", "8"}, {"1", "1", "8"}};
    for (String[] line : lines) {
      String text = line[0] + " setlinewidth 0 " + line[1] + " moveto 8 " + line[1] + " lineto stroke";
      inks(b, 8, 8, text, line[1].equals("1") || !line[2].equals("0") ? block(0, 0, 7, 0) : block(1, 1, 0, 0));
    }
    inks(b, 8, 8, "2 setlinewidth 2 4 moveto 6 4 lineto stroke", block(2, 3, 5, 4));
    inks(b, 8, 8, "2 setlinewidth 4 2 moveto 4 6 lineto stroke", block(3, 2, 4, 5));
    inks(b, 8, 8, "2 setlinewidth 2 setlinecap 2 4 moveto 6 4 lineto stroke", block(1, 3, 6, 4));
    inks(b, 8, 8, "2 setlinewidth 2 setlinecap 4 2 moveto 4 6 lineto stroke", block(3, 1, 4, 6));
  }

  /** HALF is at most 200. */
  private static void greatestWidth(Bench b) {
    for (String width : new String[] {"400", "400.5", "32767.99999"}) {
      inks(b, 8, 8, width + " setlinewidth 0 205.5 moveto 8 205.5 lineto stroke", block(0, 5, 7, 7));
      inks(b, 8, 8, width + " setlinewidth 0 205.50002 moveto 8 205.50002 lineto stroke", block(0, 6, 7, 7));
    }
    inks(b, 8, 8, "399.99 setlinewidth 0 205.5 moveto 8 205.5 lineto stroke", block(0, 6, 7, 7));
    inks(b, 8, 8, "64 64 scale 32767 setlinewidth 0 3.2109375 moveto 1 3.2109375 lineto stroke", block(0, 5, 7, 7));
  }

  /** w times S, S the root of |det|. */
  private static void scaledWidths(Bench b) {
    for (String scale : new String[] {"2 2 scale", "-2 2 scale", "4 1 scale", "1 -4 scale", "90 rotate 2 2 scale", "[0 1 4 0 0 0] concat"}) {
      inks(b, 8, 8, "2 4 moveto 6 4 lineto " + scale + " 1 setlinewidth stroke", block(2, 3, 5, 4));
    }
    inks(b, 8, 8, "2 4.5 moveto 6 4.5 lineto 0 1 scale 9 setlinewidth stroke", block(2, 4, 5, 4));
    // The root is rounded down: of 2 it is 92681 parts, so half of 2 wide is as many.
    String line = "2 ? moveto 6 ? lineto 2 1 scale 2 setlinewidth stroke";
    inks(b, 8, 8, line.replace("?", "1.9141998291015625"), block(2, 0, 5, 2));
    inks(b, 8, 8, line.replace("?", "1.914215087890625"), block(2, 1, 5, 2));
  }

  /** A part of more than a MOVE without edges: with ENDS 1 the DISC at its MOVE, else nothing; edges of no length don't count. */
  private static void points(Bench b) {
    String disc = "........\n........\n...##...\n..####..\n..####..\n...##...\n........\n........\n";
    for (String part : new String[] {"4 4 lineto", "closepath", "4 4 lineto closepath", "4 4 4 4 4 4 curveto", "4 4 lineto 4 4 lineto"}) {
      inks(b, 8, 8, "4 setlinewidth 1 setlinecap 4 4 moveto " + part + " stroke", disc);
      inks(b, 8, 8, "4 setlinewidth 0 setlinecap 4 4 moveto " + part + " stroke", block(1, 1, 0, 0));
      inks(b, 8, 8, "4 setlinewidth 2 setlinecap 4 4 moveto " + part + " stroke", block(1, 1, 0, 0));
      inks(b, 8, 8, "4 setlinewidth 1 setlinejoin 4 4 moveto " + part + " stroke", block(1, 1, 0, 0));
    }
    inks(b, 8, 8, "4 setlinewidth 1 setlinecap 4 4 moveto stroke", block(1, 1, 0, 0));
    inks(b, 8, 8, "4 setlinewidth 1 setlinecap stroke", block(1, 1, 0, 0));
    inks(b, 8, 8, "4 setlinewidth 1 setlinecap 0 0 moveto 4 4 moveto 4 4 lineto stroke", disc);
    inks(b, 8, 8, "2 setlinewidth 2 4 moveto 2 4 lineto 6 4 lineto 6 4 lineto stroke", block(2, 3, 5, 4));
    inks(b, 8, 8, "2 setlinewidth 2 setlinecap 2 4 moveto 2 4 lineto 6 4 lineto 6 4 lineto stroke", block(1, 3, 6, 4));
    // An edge of the least length still has its direction.
    inks(b, 8, 8, "2 setlinewidth 2 setlinecap 4 4 moveto 4" + PART + " 4 lineto stroke", block(3, 3, 4, 4));
  }

  /** A part with a CLOSE has joins all around and no ends. */
  private static void closedStrokes(Bench b) {
    String ring = ".#######\n.#######\n.##...##\n.##...##\n.##...##\n.#######\n.#######\n........\n";
    for (String ends : new String[] {"0", "1", "2"}) {
      inks(b, 8, 8, "2 setlinewidth " + ends + " setlinecap 2 2 moveto 7 2 lineto 7 7 lineto 2 7 lineto closepath stroke", ring);
    }
    inks(b, 8, 8, "2 setlinewidth 2 2 moveto 7 2 lineto 7 7 lineto 2 7 lineto 2 2 lineto stroke",
        ".#######\n.#######\n.##...##\n.##...##\n.##...##\n.#######\n..######\n........\n");
    inks(b, 8, 8, "2 setlinewidth 2 2 moveto 7 2 lineto 7 7 lineto 2 7 lineto stroke",
        "..######\n..######\n......##\n......##\n......##\n..######\n..######\n........\n");
    inks(b, 8, 8, "2 setlinewidth 2 4 moveto 6 4 lineto closepath stroke", block(2, 3, 5, 4));
    inks(b, 8, 8, "2 setlinewidth 2 setlinecap 2 4 moveto 6 4 lineto closepath stroke", block(2, 3, 5, 4));
  }

  /** MITRE, if u is not below the limit: at a right angle the bound is between two FIXED beside the root of 2. */
  private static void mitres(Bench b) {
    String corner = "4 setlinewidth ? setmiterlimit 0 3 moveto 5 3 lineto 5 8 lineto stroke";
    String sharp = "...####.\n...####.\n...####.\n#######.\n#######.\n#######.\n#######.\n........\n";
    String cut = "...####.\n...####.\n...####.\n#######.\n#######.\n#######.\n######..\n........\n";
    for (String limit : new String[] {"1.41421509", "1.5", "2", "10", "20"}) {
      inks(b, 8, 8, corner.replace("?", limit), sharp);
    }
    for (String limit : new String[] {"1", "1.2", "1.4", "1.4141998291015625"}) {
      inks(b, 8, 8, corner.replace("?", limit), cut);
    }
    inks(b, 8, 8, "2 setlinejoin " + corner.replace("?", "10"), cut);
    // No mitre without a turn, however great the limit: straight on, or back.
    inks(b, 8, 8, "4 setlinewidth 20 setmiterlimit 1 4 moveto 3 4 lineto 6 4 lineto stroke", block(1, 2, 5, 5));
    inks(b, 8, 8, "4 setlinewidth 20 setmiterlimit 1 4 moveto 6 4 lineto 3 4 lineto stroke", block(1, 2, 5, 5));
  }

  /** The first 4 are kept, all are counted; then erasepage, initgraphics. */
  private static void pages(Bench b) {
    PaintTongue x = new PaintTongue(8, 8);
    for (int i = 0; i <= 5; i++) {
      Bench.more(x, box(i + "", "0", (i + 1) + "", "1") + "fill showpage");
      b.due("pages out", x.look(9), i + 1);
      b.due("the present one is empty", x.look(13), 0);
    }
    for (int k = 0; k <= 3; k++) {
      for (int i = 0; i <= 5; i++) {
        b.due("page " + k + " at " + i, x.pixel(k, i, 0), i == k ? 1 : 0);
      }
    }
    b.due("no fifth page", x.pixel(4, 4, 0), -1);
    Bench.more(x, "showpage ".repeat(100));
    b.due("all are counted", x.look(9), 106);
    x = Bench.ran(8, 8, ALL + "fill .5 setgray 3 3 moveto erasepage");
    b.due("erasepage leaves the graphics", x.look(13) * 10 + x.look(16) + x.graphics(8), 32769);
  }

  /** w, h 1 .. 64, n 1, 2, 4, 8: RANGE; then z; then a MATRIX without a way BACK: RESULT. */
  private static void imageBounds(Bench b) {
    b.bounds("? 1 1 matrix {()} image", 1, 64, Bench.RANGE);
    b.bounds("1 ? 1 matrix {()} image", 1, 64, Bench.RANGE);
    b.bounds("? 1 true matrix {()} imagemask", 1, 64, Bench.RANGE);
    b.bounds("1 ? true matrix {()} imagemask", 1, 64, Bench.RANGE);
    for (int n = -1; n <= 17; n++) {
      b.errs("1 1 " + n + " matrix {()} image", n == 1 || n == 2 || n == 4 || n == 8 ? 0 : Bench.RANGE);
    }
    for (String n : new String[] {"-2147483648", "2147483647", "32", "257"}) {
      b.errs("1 1 " + n + " matrix {()} image", Bench.RANGE);
      b.errs(n + " 1 1 matrix {()} image", n.equals("32") ? 0 : Bench.RANGE);
      b.errs("1 " + n + " 1 matrix {()} image", n.equals("32") ? 0 : Bench.RANGE);
    }
    String flat = "[1 1 1 1 0 0] setmatrix ";
    b.errs(flat + "1 1 1 matrix {()} image", Bench.RESULT);
    b.errs(flat + "0 1 1 matrix {()} image", Bench.RANGE);
    b.errs(flat + "1 1 1 [1] {()} image", Bench.RANGE);
    b.errs(flat + "1 1 1 [65 0 0 1 0 0] {()} image", Bench.RANGE);
    b.errs(flat + "1 1 true matrix {()} imagemask", Bench.RESULT);
    b.errs(flat + "1 65 true matrix {()} imagemask", Bench.RANGE);
    PaintTongue x = Bench.ran("1 1 3 matrix {()} image");
    b.due("the operands stay", Bench.operands(x), "0:1 0:1 0:3 9:6 9:1x");
  }

  /** Till h rows of (w n + 7) / 8 bytes came, further ones are passed, or one of no bytes. */
  private static void imageBytes(Bench b) {
    for (int w : new int[] {1, 7, 8, 9, 16, 63, 64}) {
      for (int n : new int[] {1, 2, 4, 8}) {
        int each = (w * n + 7) / 8;
        PaintTongue x = Bench.ran("/turns 0 def /s 1 string def " + w + " 3 " + n + " matrix {/turns turns 1 add def s} image turns");
        b.due("turns of one byte, " + w + " by 3 of " + n, x.top(0, 1), 3 * each);
        x = Bench.ran("/turns 0 def /s 500 string def " + w + " 3 " + n + " matrix {/turns turns 1 add def s} image turns");
        b.due("turns of 500 bytes, " + w + " by 3 of " + n, x.top(0, 1), 1);
        x = Bench.ran("/turns 0 def /s " + each + " string def " + w + " 3 " + n + " matrix {/turns turns 1 add def s} image turns");
        b.due("turns of a row, " + w + " by 3 of " + n, x.top(0, 1), 3);
      }
    }
    PaintTongue x = Bench.ran(64, 64, "/s 64 string def 64 64 8 matrix {s} image");
    b.due("the greatest image", x.look(10) * 10000 + x.look(13), 4096);
    inks(b, 8, 8, "/k 0 def 8 4 1 matrix {/k k 1 add def k 3 lt {<00>} {<>} ifelse} image", block(0, 0, 7, 1));
    inks(b, 8, 8, "8 4 1 matrix {()} image", block(1, 1, 0, 0));
    inks(b, 8, 8, "/k 0 def 8 4 1 matrix {k 0 eq {/k 1 def <000000>} {<>} ifelse} image", block(0, 0, 7, 2));
    inks(b, 8, 8, "8 2 1 matrix {<0000ffffff>} image", block(0, 0, 7, 1));
    // A row that came in part: its samples that came are painted.
    inks(b, 16, 8, "/k 0 def 16 1 1 matrix {k 0 eq {/k 1 def <00>} {<>} ifelse} image", "................\n".repeat(7) + "########........\n");
    // The bytes are those of when the string came.
    inks(b, 8, 8, "/s 1 string def 8 2 1 matrix {s 0 s 0 get not put s} image", "........\n".repeat(6) + "########\n........\n");
  }

  /** u, v with whole parts 0 .. w - 1, 0 .. h - 1. */
  private static void imageEdges(Bench b) {
    String image = " 2 2 1 [1 0 0 1 ? @] {<0000>} image";
    String[][] shifts = {{"0", "0", "0 0 1 1"}, {"-.5", "0", "0 0 1 1"}, {"-.50001", "0", "1 0 2 1"}, {".49999", "0", "0 0 1 1"}, {".5", "0", "0 0 0 1"},
        {"0", "-.5", "0 0 1 1"}, {"0", "-.50001", "0 1 1 2"}, {"0", ".5", "0 0 1 0"}, {"-3.5", "-4.5", "3 4 4 5"}, {"-3.50001", "-4.50001", "4 5 5 6"},
        {"1.49999", "1.49999", "0 0 0 0"}, {"1.5", "0", "1 1 0 0"}, {"0", "1.5", "1 1 0 0"}, {"-7.5", "-7.5", "7 7 7 7"}, {"-9", "0", "1 1 0 0"}};
    for (String[] shift : shifts) {
      String[] at = shift[2].split(" ");
      inks(b, 8, 8, image.replace("?", shift[0]).replace("@", shift[1]),
          block(Integer.parseInt(at[0]), Integer.parseInt(at[1]), Integer.parseInt(at[2]), Integer.parseInt(at[3])));
    }
    inks(b, 8, 8, "2 2 1 [1 0 0 -1 0 2] {<40 80>} image", "........\n".repeat(6) + "#.......\n.#......\n");
    inks(b, 8, 8, "2 2 1 [0 1 1 0 0 0] {<40 c0>} image", "........\n".repeat(7) + "#.......\n");
    inks(b, 8, 8, "4 4 scale 2 2 1 matrix {<4080>} image", "....####\n".repeat(4) + "####....\n".repeat(4));
  }

  /** Row v from the first byte on, the highest bits first; painted with sample / (2^n - 1). */
  private static void imageSamples(Bench b) {
    int[] sizes = {1, 2, 4, 8};
    for (int n : sizes) {
      int most = (1 << n) - 1;
      int count = Math.min(most + 1, 64);
      StringBuilder hex = new StringBuilder();
      long bits = 0;
      int held = 0;
      int[] samples = new int[count];
      for (int i = 0; i < count; i++) {
        samples[i] = count <= most ? i * most / (count - 1) : i;
        bits = bits << n | samples[i];
        held += n;
        for (; held >= 8; held -= 8) {
          hex.append(String.format("%02x", bits >> held - 8 & 255));
        }
      }
      hex.append(held > 0 ? String.format("%02x", bits << 8 - held & 255) : "");
      PaintTongue x = Bench.ran(96, 8, count + " 2 " + n + " matrix {<" + hex + ">} image");
      b.due("error of samples of " + n, x.look(10), 0);
      for (int i = 0; i < 96; i++) {
        for (int j = 0; j < 3; j++) {
          int want = i < count && j < 2 && 16 * samples[i] / most <= DOTS[i % 4 + 4 * j] ? 1 : 0;
          b.due("sample " + i + ", " + j + " of " + n, x.pixel(-1, i, j), want);
        }
      }
    }
    inks(b, 8, 8, ALL + "fill 8 1 1 matrix {<f0>} image", block(0, 1, 7, 7).substring(0, 63) + "....####\n");
  }

  /** RANGE on the way: it isn't such. */
  private static void imageWayBack(Bench b) {
    // One pixel is some 10,922 wide: the fourth one's middle is beyond the FIXED, though z would bring it back.
    String tiny = "[.0001 0 0 1 0 0] setmatrix 1 8 1 [.015625 0 0 1 ? 0] {8 string} image";
    inks(b, 8, 8, tiny.replace("?", "-85"), block(0, 0, 0, 7));
    inks(b, 8, 8, tiny.replace("?", "-256"), block(1, 0, 1, 7));
    inks(b, 8, 8, tiny.replace("?", "-426.6"), block(2, 0, 2, 7));
    inks(b, 8, 8, tiny.replace("?", "-597.3"), block(1, 1, 0, 0));
    inks(b, 8, 8, "[1 0 0 .0001 0 0] setmatrix 8 1 1 [1 0 0 .015625 0 -426.6] {<00>} image", block(0, 2, 7, 2));
    inks(b, 8, 8, "[1 0 0 .0001 0 0] setmatrix 8 1 1 [1 0 0 .015625 0 -597.3] {<00>} image", block(1, 1, 0, 0));
  }

  /** MATRIX, z, grey of when it began; CLIP, DOTS of when it paints. */
  private static void imageTimes(Bench b) {
    inks(b, 8, 8, "/m matrix def 8 8 1 m {m 0 0 put 5 5 translate 8 string} image", block(0, 0, 7, 7));
    inks(b, 8, 8, "8 8 1 matrix {" + box("2", "2", "5", "5") + "clip 8 string} image", block(2, 2, 4, 4));
    inks(b, 8, 8, "8 8 true matrix {1 setgray <ffffffffffffffff>} imagemask", block(0, 0, 7, 7));
    inks(b, 8, 8, "1 setgray 8 8 true matrix {0 setgray <ffffffffffffffff>} imagemask", block(1, 1, 0, 0));
    inks(b, 8, 8, ".9375 setgray 8 8 true matrix {[15 0 1 2 3 4 5 6 7 8 9 10 11 12 13 14] setdots <ffffffffffffffff>} imagemask",
        "........\n........\n........\n#...#...\n........\n........\n........\n#...#...\n");
    PaintTongue x = Bench.ran(8, 8, "1 1 moveto 8 8 1 matrix {8 string} image");
    b.due("the path stays", x.look(16), 1);
  }

  /** When it is through it must have left a STRING: UNDERFLOW, TYPE. */
  private static void imageErrors(Bench b) {
    for (String image : new String[] {"1 1 1 matrix {?} image", "1 1 true matrix {?} imagemask"}) {
      String op = image.substring(image.lastIndexOf(' ') + 1);
      b.fails(image.replace("?", ""), Bench.UNDERFLOW, op, "");
      b.fails(image.replace("?", "7"), Bench.TYPE, op, "0:7");
      b.fails(image.replace("?", "(a) /a"), Bench.TYPE, op, "8:1 5:1");
      b.fails("7 " + image.replace("?", ""), Bench.TYPE, op, "0:7");
      b.gives("(a) " + image.replace("?", ""), "");
      b.gives("7 " + image.replace("?", "(a) cvx"), "0:7");
      PaintTongue x = Bench.ran("{" + image.replace("?", "7") + "} stopped 8");
      b.due("caught", Bench.operands(x), "0:7 2:1 0:8");
      b.due("nothing is painted", x.look(13), 0);
      // No sign goes there: the graphics stay as they are.
      x = Bench.ran(".25 setgray gsave {" + image.replace("?", ".5 setgray gsave stop") + "} stopped");
      b.due("graphics behind a stop in it", x.look(3) * 100000 + x.graphics(8), 232768);
      x = Bench.ran("{{" + image.replace("?", "stop") + "} stopped} stopped");
      b.due("stopped in it", Bench.operands(x) + x.look(13), "2:1 2:00");
    }
  }

  /** n is 1; pixels whose sample is 1 (b true), or 0. */
  private static void masks(Bench b) {
    String row = "........\n".repeat(7);
    inks(b, 8, 8, "8 1 true matrix {<a5>} imagemask", row + "#.#..#.#\n");
    inks(b, 8, 8, "8 1 false matrix {<a5>} imagemask", row + ".#.##.#.\n");
    inks(b, 8, 8, "5 1 false matrix {<00>} imagemask", row + "#####...\n");
    inks(b, 8, 8, "8 2 false matrix {()} imagemask", row + "........\n");
    inks(b, 8, 8, "/k 0 def 8 2 false matrix {k 0 eq {/k 1 def <00>} {<>} ifelse} imagemask", row + "########\n");
    inks(b, 8, 8, ALL + "fill 1 setgray 8 1 true matrix {<f0>} imagemask", block(0, 1, 7, 7).substring(0, 63) + "....####\n");
  }
}
