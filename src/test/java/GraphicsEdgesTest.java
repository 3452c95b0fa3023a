/** The boundary cases that PART 5 names of matrices, paths and what is kept. */
public final class GraphicsEdgesTest {
  private static final String[] BY_MATRIX = {"transform", "dtransform", "itransform", "idtransform"};
  private static final String FIXED_ONE = ".0000152587890625";

  public static void main(String[] args) {
    Bench b = new Bench("GraphicsEdgesTest");
    matrixBounds(b);
    matrixLengths(b);
    rows(b);
    products(b);
    turns(b);
    inverses(b);
    places(b);
    withoutAWayBack(b);
    amounts(b);
    dots(b);
    pathBounds(b);
    points(b);
    noPoint(b);
    moves(b);
    closes(b);
    flat(b);
    boxes(b);
    goingThrough(b);
    keeping(b);
    keptAll(b);
    initial(b);
    b.close();
  }

  /** a to d from -64 to 64: else RANGE; of the six each is a NUMBER, as FIXED. */
  private static void matrixBounds(Bench b) {
    String font = "<< /FontMatrix [1 0 0 1 0 0] /BuildChar {} >> ";
    String[] uses = {"? setmatrix", "? matrix invertmatrix", "? [0 0 0 0 0 0] matrix concatmatrix", "[0 0 0 0 0 0] ? matrix concatmatrix",
        "0 0 ? transform", "0 0 ? dtransform", "0 0 ? itransform", "0 0 ? idtransform", "1 1 1 ? {()} image", "1 1 true ? {()} imagemask",
        "[0 0 0 0 0 0] setmatrix ? concat", font + "? makefont"};
    for (String use : uses) {
      for (int i = 0; i < 4; i++) {
        for (String sign : new String[] {"", "-"}) {
          StringBuilder row = new StringBuilder();
          // A second number keeps the determinant from being 0.
          for (int k = 0; k < 6; k++) {
            row.append(k == i ? sign + "@" : k == 3 - i ? "1" : "0").append(' ');
          }
          String text = use.replace("?", "[" + row + "]");
          b.bound(text.replace("@", "?"), "64", "65", Bench.RANGE);
          b.bound(text.replace("@", "?"), "64.0", sign.isEmpty() ? "64.00002" : "64.00001", Bench.RANGE);
          b.errs(text.replace("@", "40000"), Bench.RANGE);
        }
      }
      String shift = use.replace("?", "[1 0 0 1 # 0]").replace("#", "?");
      if (!use.contains("itransform") && !use.contains("image") && !use.contains("invert")) {
        b.bounds(shift, -32768, 32767, Bench.RANGE);
      }
    }
    b.bound("[1 0 0 1 ? 0] setmatrix", "32767.99999", "32768", Bench.RANGE);
    b.bound("[1 0 0 1 0 ?] setmatrix", "-32768.0", "-32769", Bench.RANGE);
  }

  /** q and z of another length: RANGE; z with an element that is no NUMBER: TYPE, if it is of six. */
  private static void matrixLengths(Bench b) {
    String[] zs = {"? setmatrix", "? concat", "? matrix matrix concatmatrix", "matrix ? matrix concatmatrix", "? matrix invertmatrix",
        "1 1 ? transform", "1 1 ? dtransform", "1 1 ? itransform", "1 1 ? idtransform", "1 1 1 ? {()} image", "1 1 true ? {()} imagemask",
        "<< /FontMatrix matrix /BuildChar {} >> ? makefont"};
    for (String z : zs) {
      b.bound(z, "[1 0 0 1 0 0]", "[1 0 0 1 0]", Bench.RANGE);
      b.bound(z, "{1 0 0 1 0 0}", "[1 0 0 1 0 0 0]", Bench.RANGE);
      b.bound(z, "[9 1 0 0 1 0 0 9] 1 6 getinterval", "[]", Bench.RANGE);
      b.errs(z.replace("?", "[/a /b]"), Bench.RANGE);
      b.errs(z.replace("?", "[null 0 0 1 0 0 0]"), Bench.RANGE);
      b.errs(z.replace("?", "[1 0 0 1 0 null]"), Bench.TYPE);
      b.errs(z.replace("?", "[99 0 0 1 0 null]"), Bench.TYPE);
    }
    String[] qs = {"? currentmatrix", "1 2 ? translate", "1 2 ? scale", "90 ? rotate", "matrix matrix ? concatmatrix", "matrix ? invertmatrix"};
    for (String q : qs) {
      b.bound(q, "6 array", "5 array", Bench.RANGE);
      b.bound(q, "[/a (b) null true [] 0 dict]", "7 array", Bench.RANGE);
      b.bound(q, "9 array 2 6 getinterval", "[]", Bench.RANGE);
    }
    // A TYPE comes ahead of another one's RANGE.
    b.errs("[1] [1 0 0 1 0 null] 2 array concatmatrix", Bench.TYPE);
    b.errs("1 true [1] transform", Bench.TYPE);
    b.errs("99 99 99 [1 0 0 1 0 null] {} image", Bench.TYPE);
  }

  /** What comes into a q are six FIXED; it is given; a part of a ROW takes them, too. */
  private static void rows(Bench b) {
    b.prints("6 array currentmatrix == 1 2 6 array translate == 3 4 6 array scale == 90 6 array rotate ==",
        "[ 1.0 0.0 0.0 1.0 0.0 0.0 ]\n[ 1.0 0.0 0.0 1.0 1.0 2.0 ]\n[ 3.0 0.0 0.0 4.0 0.0 0.0 ]\n[ 0.0 1.0 -1.0 0.0 0.0 0.0 ]\n");
    b.prints("matrix aload pop 6 {==} repeat", "0.0\n0.0\n1.0\n0.0\n0.0\n1.0\n");
    b.prints("/r 8 array def r 1 6 getinterval currentmatrix length = r ==", "6\n[ -null- 1.0 0.0 0.0 1.0 0.0 0.0 -null- ]\n");
    b.prints("1 2 matrix translate pop 3 4 matrix scale pop 90 matrix rotate pop matrix currentmatrix ==", "[ 1.0 0.0 0.0 1.0 0.0 0.0 ]\n");
    b.prints("/m [2 0 0 4 6 8] def m m invertmatrix pop m ==", "[ 0.5 0.0 0.0 0.25 -3.0 -2.0 ]\n");
    b.gives("6 array cvx currentmatrix", "9:6x");
  }

  /** concat, translate, scale, concatmatrix, scalefont: beyond a MATRIX's bounds RANGE, and nothing has changed. */
  private static void products(Bench b) {
    b.bound("8 8 scale ? 1 scale", "8", "8.00002", Bench.RANGE);
    b.bound("8 8 scale 1 ? scale", "-8", "-8.00002", Bench.RANGE);
    b.bounds("? 1 scale", -64, 64, Bench.RANGE);
    b.bounds("1 ? scale", -64, 64, Bench.RANGE);
    b.bounds("? 1 matrix scale", -64, 64, Bench.RANGE);
    b.bounds("1 ? matrix scale", -64, 64, Bench.RANGE);
    b.bounds("[.5 0 0 .5 0 0] setmatrix ? 1 scale", -64, 64, Bench.RANGE);
    b.bound("32767 0 translate ? 0 translate", ".99998", "1", Bench.RANGE);
    b.bound("0 -32768 translate 0 ? translate", "0", "-.00001", Bench.RANGE);
    b.bound("2 2 scale ? 0 translate", "16383.99999", "16384", Bench.RANGE);
    b.bound("2 2 scale 0 ? translate", "-16384", "-16384.00002", Bench.RANGE);
    b.bound("[8 0 0 8 0 0] concat [? 0 0 1 0 0] concat", "8", "8.00002", Bench.RANGE);
    b.bound("[8 8 8 8 0 0] [? 4 4 4 0 0] matrix concatmatrix", "4", "4.00002", Bench.RANGE);
    b.bound("[8 8 8 8 0 0] [4 4 4 ? 0 0] matrix concatmatrix", "4", "4.00002", Bench.RANGE);
    b.bound("[1 0 0 1 ? 0] [1 0 0 1 1 0] matrix concatmatrix", "32766.99999", "32767", Bench.RANGE);
    b.bound("[1 0 0 1 0 ?] [1 0 0 1 0 -1] matrix concatmatrix", "-32767", "-32767.00001", Bench.RANGE);
    // One of the six beyond its bounds is enough.
    String[] firsts = {"[8 0 0 0 0 0]", "[8 0 0 0 0 0]", "[0 0 8 0 0 0]", "[0 0 8 0 0 0]"};
    String[] seconds = {"[? 0 0 0 0 0]", "[0 ? 0 0 0 0]", "[? 0 0 0 0 0]", "[0 ? 0 0 0 0]"};
    for (int i = 0; i < 4; i++) {
      b.bound(firsts[i] + " " + seconds[i] + " matrix concatmatrix", "8", "8.00002", Bench.RANGE);
      b.bound(firsts[i] + " " + seconds[i] + " matrix concatmatrix", "-8", "-8.00001", Bench.RANGE);
      b.bound(seconds[i] + " setmatrix " + firsts[i] + " concat", "8", "8.00002", Bench.RANGE);
    }
    for (String row : new String[] {"[1 0 0 .015 0 0]", "[.015 0 0 1 0 0]", "[0 1 .015 0 0 0]", "[0 .015 1 0 0 0]"}) {
      b.errs(row + " matrix invertmatrix", Bench.RANGE);
      b.errs(row.replace(".015", ".016") + " matrix invertmatrix", 0);
    }
    PaintTongue x = Bench.ran("8 8 scale 3 4 translate 9 1 scale");
    b.due("the matrix stays", x.graphics(0) + x.graphics(3) + x.graphics(4) + x.graphics(5), (8 + 8 + 24 + 32) * 65536);
    b.due("the operands stay", Bench.operands(x), "0:9 0:1");
    x = Bench.ran("/m [7 7 7 7 7 7] def [9 0 0 9 0 0] [9 0 0 9 0 0] m concatmatrix");
    Bench.more(x, "clear m 0 get");
    b.due("nothing came into the row", Bench.operands(x), "0:7");
    b.prints("[1 2 3 4 5 6] [7 8 9 10 11 12] matrix concatmatrix ==", "[ 25.0 28.0 57.0 64.0 100.0 112.0 ]\n");
    b.prints("[1 2 3 4 5 6] setmatrix [1 0 0 2 1 1] concat matrix currentmatrix ==", "[ 1.0 2.0 6.0 8.0 9.0 12.0 ]\n");
  }

  /** A multiple of 90: else RANGE. */
  private static void turns(Bench b) {
    String[][] turned = {{"0", "1.0 0.0 0.0 1.0"}, {"90", "0.0 1.0 -1.0 0.0"}, {"180", "-1.0 0.0 0.0 -1.0"}, {"270", "0.0 -1.0 1.0 0.0"},
        {"360", "1.0 0.0 0.0 1.0"}, {"450", "0.0 1.0 -1.0 0.0"}, {"-90", "0.0 -1.0 1.0 0.0"}, {"-180", "-1.0 0.0 0.0 -1.0"},
        {"-270", "0.0 1.0 -1.0 0.0"}, {"90.0", "0.0 1.0 -1.0 0.0"}, {"-90.0", "0.0 -1.0 1.0 0.0"}, {"32760", "1.0 0.0 0.0 1.0"},
        {"-32760", "1.0 0.0 0.0 1.0"}, {"32670.0", "0.0 -1.0 1.0 0.0"}, {"90000", "1.0 0.0 0.0 1.0"}, {"2147483610", "0.0 1.0 -1.0 0.0"},
        {"-2147483610", "0.0 -1.0 1.0 0.0"}};
    for (String[] turn : turned) {
      b.prints(turn[0] + " matrix rotate ==", "[ " + turn[1] + " 0.0 0.0 ]\n");
      b.prints(turn[0] + " rotate matrix currentmatrix ==", "[ " + turn[1] + " 0.0 0.0 ]\n");
    }
    for (String n : new String[] {"1", "-1", "45", "89", "91", "89.99999", "90.00002", ".00002", "-.00001", "179", "2147483647", "-2147483648"}) {
      b.errs(n + " rotate", Bench.RANGE);
      b.errs(n + " matrix rotate", Bench.RANGE);
    }
    b.prints("[1 2 3 4 5 6] setmatrix 90 rotate matrix currentmatrix ==", "[ 3.0 4.0 -1.0 -2.0 5.0 6.0 ]\n");
  }

  /** det 0: RESULT, not rounded; beyond a MATRIX's bounds RANGE. */
  private static void inverses(Bench b) {
    b.prints("[0 2 4 0 1 1] matrix invertmatrix ==", "[ 0.0 0.25 0.5 0.0 -0.5 -0.25 ]\n");
    b.prints("[3 0 0 -3 1 1] matrix invertmatrix ==", "[ 0.33332 0.0 0.0 -0.33334 -0.33334 0.33332 ]\n");
    b.bound("[? 0 0 1 0 0] matrix invertmatrix", ".015625", ".0156", Bench.RANGE);
    b.bound("[1 0 0 ? 0 0] matrix invertmatrix", "-.015625", "-.0156", Bench.RANGE);
    b.bound("[? 0 0 1 0 0] matrix invertmatrix", ".02", "0", Bench.RESULT);
    b.errs("[1 2 2 4 5 5] matrix invertmatrix", Bench.RESULT);
    b.errs("[0 0 0 0 0 0] matrix invertmatrix", Bench.RESULT);
    // A determinant below every FIXED but 0 is one still.
    b.errs("[.0001 0 0 .0001 0 0] matrix invertmatrix", Bench.RANGE);
    b.bound("[.5 0 0 .5 ? 0] matrix invertmatrix", "16384", "16384.00002", Bench.RANGE);
    b.bound("[.5 0 0 .5 ? 0] matrix invertmatrix", "-16383.99998", "-16384", Bench.RANGE);
    b.errs("[1 1 1 1 0 0] 5 array invertmatrix", Bench.RANGE);
    b.prints("[64 0 0 64 32767 -32768] matrix invertmatrix ==", "[ 0.01562 0.0 0.0 0.01562 -511.98437 512.0 ]\n");
  }

  /** PLACE, DISTANCE, BACK: RANGE. */
  private static void places(Bench b) {
    b.gives("1 2 [3 4 5 6 7 8] transform 1 2 [3 4 5 6 7 8] dtransform", "1:1310720 1:1572864 1:851968 1:1048576");
    b.gives("20 24 [3 4 5 6 7 8] itransform 13 16 [3 4 5 6 7 8] idtransform", "1:65536 1:131072 1:65536 1:131072");
    b.bound("? 0 [2 0 0 1 0 0] transform", "16383.99999", "16384", Bench.RANGE);
    b.bound("? 0 [2 0 0 1 0 0] dtransform", "-16384", "-16384.00001", Bench.RANGE);
    b.bound("0 ? [1 0 0 2 0 0] transform", "16383.99999", "16384", Bench.RANGE);
    b.bound("0 ? [1 0 0 2 0 0] dtransform", "-16384", "-16384.00001", Bench.RANGE);
    b.bound("? 0 [1 0 0 1 32767 0] transform", ".99999", "1", Bench.RANGE);
    b.bound("? 0 [1 0 0 1 32767 0] dtransform", "32767", "32768", Bench.RANGE);
    b.bound("? 0 [.5 0 0 1 0 0] itransform", "16383.99999", "16384", Bench.RANGE);
    b.bound("? 0 [.5 0 0 1 0 0] idtransform", "-16384", "-16384.00001", Bench.RANGE);
    b.bound("0 ? [1 0 0 .5 0 0] itransform", "-16384", "-16384.00001", Bench.RANGE);
    b.bound("? 0 [1 0 0 1 1 0] itransform", "-32767", "-32767.00001", Bench.RANGE);
    b.bound("? 0 [1 0 0 1 1 0] idtransform", "-32768", "-32769", Bench.RANGE);
    for (String op : BY_MATRIX) {
      b.bound("2 2 scale ? 0 " + op, op.startsWith("i") ? "32767" : "16383", op.startsWith("i") ? "32768" : "16384", Bench.RANGE);
    }
    b.gives("1 0 [3 0 0 1 0 0] itransform -1 0 [3 0 0 1 0 0] itransform 1 0 [-3 0 0 1 0 0] idtransform",
        "1:21845 1:0 1:-21846 1:0 1:-21846 1:0");
    // The least determinants that aren't 0 lead back.
    b.gives("0 0 [.0001 0 0 .0001 0 0] itransform", "1:0 1:0");
    b.gives(FIXED_ONE + " 0 [" + FIXED_ONE + " 0 0 " + FIXED_ONE + " 0 0] idtransform", "1:65536 1:0");
    b.gives("-32768.0 32767.99999 itransform", "1:-2147483648 1:2147483647");
    leaning(b);
  }

  /** Each of the six has its own part in a place and in the way back. */
  private static void leaning(Bench b) {
    String lean = "[1 2 3 4 5 6] setmatrix ";
    b.gives(lean + "7 8 transform 7 8 dtransform 36 52 itransform 31 46 idtransform",
        "1:" + 36 * 65536 + " 1:" + 52 * 65536 + " 1:" + 31 * 65536 + " 1:" + 46 * 65536 + " 1:" + 7 * 65536 + " 1:" + 8 * 65536 + " 1:" + 7 * 65536 + " 1:"
            + 8 * 65536);
    draws(b, lean + "7 8 moveto", "m36,52", 1);
    draws(b, lean + "7 8 moveto 0 1 lineto", "m36,52 l8,10", 2);
    draws(b, lean + "7 8 moveto 1 0 rlineto", "m36,52 l37,54", 2);
    draws(b, lean + "7 8 moveto 0 1 rlineto", "m36,52 l39,56", 2);
    draws(b, lean + "7 8 moveto 1 10 rmoveto", "m67,94", 1);
    draws(b, lean + "7 8 moveto 0 0 1 0 0 1 curveto", "m36,52 c5,6,6,8,8,10", 4);
    draws(b, lean + "7 8 moveto 0 0 1 0 0 1 rcurveto", "m36,52 c36,52,37,54,39,56", 4);
    b.gives(lean + "7 8 moveto currentpoint 2 3 lineto currentpoint", "1:458752 1:524288 1:131072 1:196608");
    b.gives(lean + "7 8 moveto 2 3 lineto {} {} {} {} pathforall", "1:458752 1:524288 1:131072 1:196608");
    b.gives("[1 0 0 1 5 -6] setmatrix 7 8 moveto currentpoint {} {} {} {} pathforall pathbbox",
        "1:458752 1:524288 1:458752 1:524288 1:458752 1:524288 1:458752 1:524288");
  }

  /** RESULT, of each that goes BACK. */
  private static void withoutAWayBack(Bench b) {
    String flat = "[1 2 2 4 0 0] setmatrix ";
    for (String text : new String[] {"1 2 itransform", "1 2 idtransform", "currentpoint", "pathbbox", "{} {} {} {} pathforall", "1 1 1 matrix {()} image",
        "1 1 true matrix {()} imagemask"}) {
      b.errs("1 1 moveto " + text, 0);
      b.errs("1 1 moveto " + flat + text, Bench.RESULT);
    }
    for (String op : new String[] {"itransform", "idtransform"}) {
      b.errs("1 1 [0 0 0 0 0 0] " + op, Bench.RESULT);
      b.errs(flat + "1 1 matrix " + op, 0);
    }
    b.errs(flat + "{} {} {} {} pathforall", 0);
    b.errs(flat + "currentpoint", Bench.POINT);
    b.errs(flat + "pathbbox", Bench.POINT);
    b.errs(flat + "1 1 moveto 2 2 lineto fill 1 1 moveto 2 2 lineto stroke 3 3 transform", 0);
    b.errs("1 1 1 [1 1 1 1 0 0] {()} image", 0);
    String small = "[.0001 0 0 .0001 0 0] setmatrix ";
    b.bound("? 0 moveto " + small + "currentpoint", "2.99", "3", Bench.RANGE);
    b.bound("0 ? moveto " + small + "pathbbox", "2.99", "3", Bench.RANGE);
    b.bound("0 ? moveto " + small + "{pop pop} {} {} {} pathforall", "2.99", "3", Bench.RANGE);
  }

  /** setlinewidth below 0, setlinecap, setlinejoin 0 .. 2, setmiterlimit 1 .. 20: RANGE; setgray from 0 to 1. */
  private static void amounts(Bench b) {
    b.bound("? setlinewidth", "0", "-1", Bench.RANGE);
    b.bound("? setlinewidth", "0.0", "-.00001", Bench.RANGE);
    b.bound("? setlinewidth", "32767.99999", "32768", Bench.RANGE);
    b.bounds("? setlinecap", 0, 2, Bench.RANGE);
    b.bounds("? setlinejoin", 0, 2, Bench.RANGE);
    b.bounds("? setmiterlimit", 1, 20, Bench.RANGE);
    b.bound("? setmiterlimit", "1.0", ".99999", Bench.RANGE);
    b.bound("? setmiterlimit", "20.0", "20.00002", Bench.RANGE);
    for (String op : new String[] {"setlinecap", "setlinejoin", "setmiterlimit", "setlinewidth"}) {
      b.errs("-2147483648 " + op, Bench.RANGE);
      b.errs("2147483647 " + op, Bench.RANGE);
    }
    b.prints("0 setlinewidth currentlinewidth = 2.5 setlinewidth currentlinewidth = 32767.99999 setlinewidth currentlinewidth =",
        "0.0\n2.5\n32767.99998\n");
    String[][] greys = {{"0", "0.0"}, {"0.0", "0.0"}, {"-.00001", "0.0"}, {"-1", "0.0"}, {"-32768", "0.0"}, {".00002", "0.00001"}, {"1", "1.0"},
        {".99999", "0.99998"}, {"1.00002", "1.0"}, {"2", "1.0"}, {"32767", "1.0"}, {"32767.99999", "1.0"}};
    for (String[] grey : greys) {
      b.prints(".3 setgray " + grey[0] + " setgray currentgray =", grey[1] + "\n");
    }
    PaintTongue x = Bench.ran("20 setmiterlimit 3 setlinewidth {21 setmiterlimit} stopped {-1 setlinewidth} stopped");
    b.due("what was refused changed nothing", x.graphics(10) + x.graphics(9), 23 * 65536);
  }

  /** 16 long: RANGE; INTEGERS: TYPE; 0 .. 15, unlike: RANGE. */
  private static void dots(Bench b) {
    String fifteen = "0 1 2 3 4 5 6 7 8 9 10 11 12 13 14";
    b.errs("[" + fifteen + " 15] setdots", 0);
    b.errs("[" + fifteen + " 15] cvx setdots", 0);
    b.errs("[99 " + fifteen + " 15 99] 1 16 getinterval setdots", 0);
    b.errs("[15 14 13 12 11 10 9 8 7 6 5 4 3 2 1 0] setdots", 0);
    b.errs("[" + fifteen + " 15 null] 0 16 getinterval setdots", 0);
    b.errs("[" + fifteen + " 14 15] 0 16 getinterval setdots", Bench.RANGE);
    b.errs("[" + fifteen + "] setdots", Bench.RANGE);
    b.errs("[" + fifteen + " 15 16] setdots", Bench.RANGE);
    b.errs("[] setdots", Bench.RANGE);
    for (String last : new String[] {"16", "-1", "0", "14", "2147483647", "-2147483648", "32", "31", "47"}) {
      b.fails("[" + fifteen + " " + last + "] setdots", Bench.RANGE, "setdots", "9:16");
    }
    // Each of the 16 must be there: another one, or one beyond, in its place.
    for (int missing = 0; missing < 16; missing++) {
      StringBuilder row = new StringBuilder();
      for (int i = 0; i < 16; i++) {
        row.append(i == missing ? "?" : "" + i).append(' ');
      }
      b.bound("[" + row + "] setdots", "" + missing, "" + (missing + 1) % 16, Bench.RANGE);
      for (int other : new int[] {missing + 16, missing - 16, missing + 32, missing - 32, missing - 64, 16, -1}) {
        b.errs("[" + row.toString().replace("?", "" + other) + "] setdots", Bench.RANGE);
      }
      b.errs("[" + missing + " " + row.toString().replace("?", "" + (missing + 1) % 16) + "] 1 16 getinterval setdots", Bench.RANGE);
      b.errs("[" + row.toString().replace("?", "" + (missing + 1) % 16) + missing + "] 0 16 getinterval setdots", Bench.RANGE);
    }
    for (String last : new String[] {"15.0", "null", "true", "/a", "(a)"}) {
      b.fails("[" + fifteen + " " + last + "] setdots", Bench.TYPE, "setdots", "9:16");
      b.fails("[" + last + " 99 " + fifteen.substring(4) + " 15] setdots", Bench.TYPE, "setdots", "9:16");
    }
  }

  /** PLACES of a path are from -2000 to 2000: else RANGE. */
  private static void pathBounds(Bench b) {
    String[] texts = {"? 0 moveto", "0 ? moveto", "0 0 moveto ? 0 lineto", "0 0 moveto 0 ? lineto", "0 0 moveto ? 0 rmoveto",
        "0 0 moveto 0 ? rmoveto", "0 0 moveto ? 0 rlineto", "0 0 moveto 0 ? rlineto"};
    for (String text : texts) {
      b.bounds(text, -2000, 2000, Bench.RANGE);
      b.bound(text, "2000.0", "2000.00002", Bench.RANGE);
      b.bound(text, "-2000.0", "-2000.00001", Bench.RANGE);
      b.errs(text.replace("?", "32768"), Bench.RANGE);
    }
    for (String op : new String[] {"curveto", "rcurveto"}) {
      for (int i = 0; i < 6; i++) {
        StringBuilder text = new StringBuilder("0 0 moveto ");
        for (int k = 0; k < 6; k++) {
          text.append(k == i ? "? " : "0 ");
        }
        b.bounds(text + op, -2000, 2000, Bench.RANGE);
        b.errs((text + op).replace("?", "32768"), Bench.RANGE);
      }
    }
    b.bound("1999 -1999 moveto ? 0 rlineto", "1", "1.00002", Bench.RANGE);
    b.bound("1999 -1999 moveto 0 ? rmoveto", "-1", "-1.00001", Bench.RANGE);
    b.bound("1999 0 moveto 0 0 0 0 ? 0 rcurveto", "1", "1.00002", Bench.RANGE);
    b.bound("2 2 scale ? 0 moveto", "1000", "1000.00002", Bench.RANGE);
    b.bound("[1 0 0 1 1990 0] setmatrix ? 0 moveto", "10", "10.00002", Bench.RANGE);
    // Each of rcurveto's from the current point, and a distance takes no tx, ty.
    b.errs("[1 0 0 1 1990 0] setmatrix 0 0 moveto 10 0 10 0 10 0 rcurveto 0 0 0 0 0 0 rcurveto -2000 0 rlineto", 0);
    b.errs("32767 0 translate -32000 0 moveto", 0);
    PaintTongue x = Bench.ran("1 2 moveto 1 1 2 2 2001 0 curveto");
    b.due("no part of it came", x.look(12) * 10 + x.part(1, 0), 9);
    b.due("its operands stay", x.look(0), 6);
  }

  /** At most 300 POINTS: LIMIT; POINT, then RANGE, then LIMIT. */
  private static void points(Bench b) {
    String[][] draws = {{"1 1 lineto", "299"}, {"1 1 rlineto", "299"}, {"1 1 2 2 3 3 curveto", "297"}, {"1 1 2 2 3 3 rcurveto", "297"},
        {"1 1 moveto", "299"}, {"1 1 rmoveto", "299"}};
    for (String[] draw : draws) {
      int most = Integer.parseInt(draw[1]);
      String many = "0 0 moveto %d {.1 0 rlineto} repeat ";
      b.errs(String.format(many, most - 1) + draw[0], 0);
      PaintTongue x = Bench.ran(String.format(many, most) + draw[0]);
      b.due("one too many by " + draw[0], x.look(10), Bench.LIMIT);
      b.due("none came by " + draw[0], x.look(12), most + 1);
      b.errs(String.format(many, most) + draw[0].replace("1 1", "3000 1"), Bench.RANGE);
      // Behind a close there is a move more, ahead of a line or curve.
      int closed = draw[0].contains("move") ? most : most - 1;
      b.errs(String.format(many, closed - 1) + "closepath " + draw[0], 0);
      x = Bench.ran(String.format(many, closed) + "closepath " + draw[0]);
      b.due("behind a close one too many by " + draw[0], x.look(10), Bench.LIMIT);
      b.due("none came by " + draw[0], x.look(12), closed + 1);
    }
    b.errs("0 0 moveto 298 {.1 0 rlineto} repeat 1 1 moveto 2 2 moveto 1 1 rmoveto", 0);
    b.errs("0 0 moveto 299 {.1 0 rlineto} repeat closepath closepath", 0);
    b.bound("0 0 moveto ? {1 0 2 0 3 0 rcurveto} repeat flattenpath", "37", "38", Bench.LIMIT);
    b.bound("0 0 moveto ? {.1 0 rlineto} repeat 1 1 2 2 3 3 curveto flattenpath", "291", "292", Bench.LIMIT);
    PaintTongue x = Bench.ran("0 0 moveto 38 {1 0 2 0 3 0 rcurveto} repeat flattenpath");
    b.due("the path stays", x.look(12) * 10 + x.part(1, 0), 1150 + 2);
    b.errs("0 0 moveto 99 {1 0 2 0 3 0 rcurveto} repeat fill", 0);
  }

  /** POINT, of all but moveto and closepath. */
  private static void noPoint(Bench b) {
    for (String text : new String[] {"1 1 lineto", "1 1 rmoveto", "1 1 rlineto", "1 1 2 2 3 3 curveto", "1 1 2 2 3 3 rcurveto", "currentpoint", "pathbbox"}) {
      b.errs(text, Bench.POINT);
      b.errs("1 1 moveto newpath " + text, Bench.POINT);
      b.errs("1 1 moveto fill " + text, Bench.POINT);
      b.errs("1 1 moveto stroke " + text, Bench.POINT);
      b.errs("1 1 moveto initgraphics " + text, Bench.POINT);
      b.errs(text.replace("1 1", "3000 40000"), Bench.POINT);
      b.errs("1 1 moveto " + text, 0);
      b.errs("1 1 moveto closepath " + text, 0);
      b.errs("1 1 moveto clip " + text, 0);
    }
    for (String text : new String[] {"1 1 moveto", "closepath", "newpath", "flattenpath", "fill", "stroke", "clip", "{} {} {} {} pathforall"}) {
      b.errs(text, 0);
    }
  }

  private static String path(PaintTongue x) {
    StringBuilder all = new StringBuilder();
    for (int i = 0; x.part(i, 0) != PaintTongue.NONE; i++) {
      all.append("mlcz".charAt(x.part(i, 0)));
      for (int k = 1; k <= (x.part(i, 0) == 3 ? 0 : x.part(i, 0) == 2 ? 6 : 2); k++) {
        all.append(k > 1 ? "," : "").append(x.part(i, k) / 65536.0);
      }
      all.append(' ');
    }
    return all.toString().trim().replace(".0", "");
  }

  private static void draws(Bench b, String text, String want, int points) {
    PaintTongue x = Bench.ran(text);
    b.due("error of " + text, x.look(10), 0);
    b.due(text, path(x), want);
    b.due("points of " + text, x.look(12), points);
  }

  /** A MOVE right behind a MOVE takes its place. */
  private static void moves(Bench b) {
    draws(b, "1 2 moveto 3 4 moveto", "m3,4", 1);
    draws(b, "1 2 moveto 3 4 rmoveto", "m4,6", 1);
    draws(b, "1 2 moveto 5 6 lineto 3 4 moveto 7 8 moveto", "m1,2 l5,6 m7,8", 3);
    draws(b, "1 2 moveto closepath 3 4 moveto", "m1,2 z m3,4", 2);
    draws(b, "1 2 moveto 5 6 lineto 1 1 rmoveto", "m1,2 l5,6 m6,7", 3);
  }

  /** A CLOSE behind no CLOSE; a LINE or CURVE behind it has a MOVE ahead of it; the current point is the MOVE. */
  private static void closes(Bench b) {
    draws(b, "closepath", "", 0);
    draws(b, "1 2 moveto closepath", "m1,2 z", 1);
    draws(b, "1 2 moveto 3 4 lineto closepath closepath", "m1,2 l3,4 z", 2);
    draws(b, "1 2 moveto 3 4 lineto closepath 5 6 lineto closepath", "m1,2 l3,4 z m1,2 l5,6 z", 4);
    draws(b, "1 2 moveto 3 4 lineto closepath 1 1 rlineto", "m1,2 l3,4 z m1,2 l2,3", 4);
    draws(b, "1 2 moveto 3 4 lineto closepath 5 6 7 8 9 10 curveto", "m1,2 l3,4 z m1,2 c5,6,7,8,9,10", 6);
    draws(b, "1 2 moveto 3 4 lineto closepath 1 1 2 2 3 3 rcurveto", "m1,2 l3,4 z m1,2 c2,3,3,4,4,5", 6);
    draws(b, "1 2 moveto 3 4 lineto 5 6 moveto 7 8 lineto closepath 1 1 rmoveto", "m1,2 l3,4 m5,6 l7,8 z m6,7", 5);
    b.gives("1 2 moveto 3 4 lineto closepath currentpoint", "1:65536 1:131072");
    b.gives("1 2 moveto 3 4 lineto closepath 2 2 scale currentpoint", "1:32768 1:65536");
  }

  /** Eight LINES for a CURVE. */
  private static void flat(Bench b) {
    draws(b, "flattenpath", "", 0);
    draws(b, "1 2 moveto flattenpath", "m1,2", 1);
    draws(b, "1 2 moveto closepath flattenpath", "m1,2 z", 1);
    draws(b, "0 0 moveto 0 0 8 0 8 0 curveto closepath flattenpath",
        "m0,0 l0.34375,0 l1.25,0 l2.53125,0 l4,0 l5.46875,0 l6.75,0 l7.65625,0 l8,0 z", 9);
    draws(b, "1 1 moveto 1 1 1 1 1 1 curveto flattenpath", "m1,1" + " l1,1".repeat(8), 9);
    b.gives("1 1 moveto 1 1 1 1 3 4 curveto flattenpath currentpoint", "1:196608 1:262144");
    b.gives("1 1 moveto 2 2 3 3 4 4 curveto closepath flattenpath currentpoint 5 5 lineto 9 9 moveto", "1:65536 1:65536");
  }

  /** The least box with all its PLACES, BACK. */
  private static void boxes(Bench b) {
    b.gives("3 4 moveto pathbbox", "1:196608 1:262144 1:196608 1:262144");
    b.gives("3 4 moveto closepath pathbbox", "1:196608 1:262144 1:196608 1:262144");
    b.gives("3 4 moveto 9 9 moveto pathbbox", "1:589824 1:589824 1:589824 1:589824");
    b.gives("0 0 moveto -5 6 7 -8 1 1 curveto pathbbox", "1:-327680 1:-524288 1:458752 1:393216");
    b.gives("0 0 moveto 4 2 lineto 2 2 scale pathbbox", "1:0 1:0 1:131072 1:65536");
    b.gives("1 2 moveto 4 8 lineto -1 -2 scale pathbbox", "1:-262144 1:-262144 1:-65536 1:-65536");
    // All four corners of the box go back, under matrices that turn, lean and move it.
    for (int n = 0; n < 40; n++) {
      long[] m = {(n % 5 - 2) * 65536L + n, (n % 7 - 3) * 65536L, (n % 3 - 1) * 65536L, (n % 4 - 1) * 65536L + 5, n * 65536L, -3 * n * 65536L};
      if (m[0] * m[3] == m[1] * m[2]) {
        continue;
      }
      String text = "-5 11 moveto 1 3 lineto 7 5 lineto " + Ink.matrix(m) + " setmatrix pathbbox";
      long[] box = {Long.MAX_VALUE, Long.MAX_VALUE, Long.MIN_VALUE, Long.MIN_VALUE};
      boolean beyond = false;
      for (int corner = 0; corner < 4; corner++) {
        long[] back = Ink.back(m, (corner % 2 == 0 ? -5 : 7) * 65536L, (corner < 2 ? 3 : 11) * 65536L);
        beyond |= back == null;
        for (int k = 0; k < 2 && back != null; k++) {
          box[k] = Math.min(box[k], back[k]);
          box[2 + k] = Math.max(box[2 + k], back[k]);
        }
      }
      if (beyond) {
        b.errs(text, Bench.RANGE);
      } else {
        b.gives(text, "1:" + box[0] + " 1:" + box[1] + " 1:" + box[2] + " 1:" + box[3]);
      }
    }
  }

  /** For each of the path as it is then, its places BACK, all worked as it begins. */
  private static void goingThrough(Bench b) {
    b.gives("{} {} {} {} pathforall", "");
    b.gives("1 2 moveto {} {7} {8} {9} pathforall", "1:65536 1:131072");
    b.gives("1 2 moveto closepath {pop pop 6} {7} {8} {9} pathforall", "0:6 0:9");
    b.gives("1 2 moveto 3 4 lineto 1 1 2 2 3 3 curveto closepath {pop pop 6} {pop pop 7} {6 {pop} repeat 8} {9} pathforall", "0:6 0:7 0:8 0:9");
    b.gives("4 6 moveto 8 2 lineto 2 2 scale {9 9 scale newpath} {} {} {} pathforall", "1:131072 1:196608 1:262144 1:65536");
    b.gives("4 6 moveto 8 2 lineto {1 1 lineto} {} {} {} pathforall", "1:262144 1:393216 1:524288 1:131072");
    PaintTongue x = Bench.ran("0 1 299 {0 moveto closepath} for {pop pop} {} {} {} pathforall");
    b.due("six hundred turns", x.look(10), 0);
    x = Bench.ran("9 9 moveto 2 2 lineto [.0001 0 0 .0001 0 0] setmatrix {} {} {} {} pathforall");
    b.due("RANGE as it begins", x.look(10), Bench.RANGE);
    b.due("its operands stay", Bench.operands(x), "9:0x 9:0x 9:0x 9:0x");
  }

  /** grestore, grestoreall: nothing, if none is kept; what a save kept stays. */
  private static void keeping(Bench b) {
    PaintTongue x = Bench.ran(".5 setgray 1 1 moveto grestore grestoreall");
    b.due("none is kept: nothing", x.graphics(8) + x.look(16) + x.look(3) + x.look(10), 32769);
    x = Bench.ran(".1 setgray gsave .2 setgray gsave .3 setgray gsave .4 setgray grestore");
    b.due("the last one", x.graphics(8) * 10L + x.look(3), 196600 + 2);
    Bench.more(x, "grestoreall");
    b.due("the first one, and all go", x.graphics(8) * 10L + x.look(3), 65530);
    x = Bench.ran(".1 setgray gsave .2 setgray save .3 setgray gsave .4 setgray gsave .5 setgray grestoreall");
    b.due("the save's, which stays", x.graphics(8) * 10L + x.look(3), 131070 + 2);
    Bench.more(x, ".9 setgray grestoreall");
    b.due("once more", x.graphics(8) * 10L + x.look(3), 131070 + 2);
    Bench.more(x, ".9 setgray grestore .8 setgray grestore");
    b.due("grestore likewise", x.graphics(8) * 10L + x.look(3), 131070 + 2);
    x = Bench.ran("20 {gsave} repeat {gsave} stopped grestore gsave");
    b.due("20 again", x.look(3), 20);
  }

  /** MATRIX, PATH, CLIP, grey, line width, ends, join, miter limit, DOTS, FONT. */
  private static void keptAll(Bench b) {
    String box = "0 0 moveto 8 0 lineto 8 8 lineto 0 8 lineto ";
    String change = "2 3 scale 4 5 lineto newpath 1 1 moveto 3 1 lineto 3 3 lineto clip .5 setgray 4 setlinewidth 2 setlinecap 1 setlinejoin "
        + "3 setmiterlimit [15 14 13 12 11 10 9 8 7 6 5 4 3 2 1 0] setdots currentfont 2 scalefont setfont ";
    String font = "/F << /FontMatrix matrix /BuildChar {pop pop 1 0 setcharwidth} >> definefont setfont ";
    String after = "currentpoint newpath currentfont /FontMatrix get 0 get (a) stringwidth 2 2 moveto 5 2 lineto 5 5 lineto stroke "
        + ".3 setgray " + box + "eofill 2 setlinewidth 0 setgray 1 1 moveto 4 6 lineto 6 1 lineto stroke";
    String[] pairs = {"gsave | grestore", "gsave | grestoreall", "gsave gsave | grestore grestore", "save | restore",
        "save | grestore", "save gsave | grestoreall"};
    for (String pair : pairs) {
      String[] around = pair.split(" [|] ");
      PaintTongue x = Bench.ran(8, 8, font + ".25 setgray 7 6 moveto ");
      PaintTongue y = Bench.ran(8, 8, font + ".25 setgray 7 6 moveto ");
      Bench.more(x, around[0]);
      Bench.more(x, change);
      b.due("error of the changes", x.look(10), 0);
      Bench.more(x, (around[1].equals("restore") ? "" : "clear ") + around[1]);
      for (int what = 0; what <= 10; what++) {
        b.due(pair + ": graphics " + what, x.graphics(what), y.graphics(what));
      }
      b.due(pair + ": clip", x.look(14), y.look(14));
      b.due(pair + ": path", path(x), path(y));
      Bench.more(x, after);
      Bench.more(y, after);
      b.due(pair + ": error", x.look(10), 0);
      b.due(pair + ": operands", Bench.operands(x), Bench.operands(y));
      b.due(pair + ": page", Bench.rows(x, -1, 8), Bench.rows(y, -1, 8));
    }
  }

  /** initgraphics: all but DOTS and FONT. */
  private static void initial(Bench b) {
    String box = "0 0 moveto 8 0 lineto 8 8 lineto 0 8 lineto ";
    String change = "/F << /FontMatrix matrix /BuildChar {pop pop} >> definefont setfont [15 14 13 12 11 10 9 8 7 6 5 4 3 2 1 0] setdots "
        + "2 3 scale 1 1 moveto 3 1 lineto 3 3 lineto clip .5 setgray 4 setlinewidth 2 setlinecap 1 setlinejoin 3 setmiterlimit ";
    for (String init : new String[] {"initgraphics", "showpage"}) {
      PaintTongue x = Bench.ran(8, 8, change + init);
      PaintTongue y = Bench.ran(8, 8, "[15 14 13 12 11 10 9 8 7 6 5 4 3 2 1 0] setdots");
      for (int what = 0; what <= 10; what++) {
        if (what != 6 && what != 7) {
          b.due(init + ": graphics " + what, x.graphics(what), y.graphics(what));
        }
      }
      b.due(init + ": no path", x.look(16) + x.look(12), 0);
      b.due(init + ": all in the clip", x.look(14), 64);
      Bench.more(x, "currentfont pop");
      b.due(init + ": the font stays", x.look(10), 0);
      for (String text : new String[] {".5 setgray " + box + "fill", "0 setgray 3 setlinewidth 2 2 moveto 5 2 lineto 3 6 lineto stroke"}) {
        Bench.more(x, text);
        Bench.more(y, text);
        b.due(init + ": page of " + text, Bench.rows(x, -1, 8), Bench.rows(y, -1, 8));
      }
    }
    b.errs("currentfont", Bench.FONT);
    PaintTongue x = Bench.ran("[2 0 0 2 1 1] setmatrix initmatrix");
    b.due("initmatrix", x.graphics(0) + x.graphics(4), 65536);
  }
}
