/** The boundary cases that PART 6 names: what is a FONT, signs, their widths, and how they end. */
public final class FontEdgesTest {
  private static final String BOX = "0 0 moveto 1 0 lineto 1 1 lineto 0 1 lineto fill ";
  private static final String[] USES = {"currentfont", "(a) show", "() show", "1 1 (a) ashow", "1 1 97 (a) widthshow", "{} (a) kshow", "(a) stringwidth",
      "() stringwidth"};
  private static final String[] TAKES = {"/k ? definefont", "? 2 scalefont", "? matrix makefont", "? setfont"};

  public static void main(String[] args) {
    Bench b = new Bench("FontEdgesTest");
    whatIsAFont(b);
    fontsThatAreNone(b);
    noFontSet(b);
    fontNames(b);
    scaling(b);
    copies(b);
    beginning(b);
    turnErrors(b);
    emptyStrings(b);
    encodings(b);
    signMatrices(b);
    widths(b);
    bounds(b);
    distances(b);
    spacing(b);
    between(b);
    ofThen(b);
    stringWidths(b);
    widthSums(b);
    mute(b);
    keptBySigns(b);
    savesInSigns(b);
    stopsInSigns(b);
    b.close();
  }

  private static String dict(String matrix, String build, String more) {
    return "<< /FontMatrix " + matrix + " /BuildChar " + build + " " + more + " >>";
  }

  private static String font(String build) {
    return "/F " + dict("matrix", "{" + build + "}", "") + " definefont setfont ";
  }

  private static String at(String build) {
    return font(build) + "1 1 moveto ";
  }

  private static void fits(Bench b, String dict, boolean isFont) {
    for (String take : TAKES) {
      b.errs(take.replace("?", dict), isFont ? 0 : Bench.FONT);
    }
  }

  /** FontMatrix, a ROW that is a MATRIX, BuildChar, a PROCEDURE; if they have Encoding it is a ROW. */
  private static void whatIsAFont(Bench b) {
    fits(b, dict("matrix", "{}", ""), true);
    fits(b, dict("{1 0 0 1 0 0}", "{}", "/Encoding []"), true);
    fits(b, dict("[1 0 0 1 0 0]", "0 array cvx", "/Encoding {a}"), true);
    fits(b, dict("[9 1 0 0 1 0 0] 1 6 getinterval", "{1}", "/Other null 1 2"), true);
    fits(b, "<< >>", false);
    fits(b, "<< /FontMatrix matrix >>", false);
    fits(b, "<< /BuildChar {} >>", false);
    fits(b, "<< /fontmatrix matrix /BuildChar {} >>", false);
    for (String build : new String[] {"[]", "()", "() cvx", "/a cvx", "/add load", "null", "1 dict", "1"}) {
      fits(b, dict("matrix", build, ""), false);
    }
    for (String matrix : new String[] {"[1 0 0 1 0]", "[1 0 0 1 0 0 0]", "[]", "[1 0 0 1 0 null]", "[/a 0 0 1 0 0]", "(abcdef)", "null", "1", "1 dict",
        "[1 0 0 1 32768 0]", "[1 0 0 1 0 -32769]", "[40000 0 0 1 0 0]"}) {
      fits(b, dict(matrix, "{}", ""), false);
    }
    fits(b, dict("(abcdef) [1 0 0 1 0 0] pop", "{}", ""), false);
    for (String encoding : new String[] {"()", "null", "1", "1 dict", "/a", "true"}) {
      fits(b, dict("matrix", "{}", "/Encoding " + encoding), false);
    }
    for (int i = 0; i < 4; i++) {
      for (String[] bound : new String[][] {{"64", "65"}, {"-64", "-65"}, {"64.0", "64.00002"}, {"-64.0", "-64.00001"}}) {
        for (int k = 0; k <= 1; k++) {
          StringBuilder row = new StringBuilder("[");
          for (int n = 0; n < 6; n++) {
            row.append(n == i ? bound[k] : "0").append(' ');
          }
          b.errs("/k " + dict(row + "]", "{}", "") + " definefont", k == 0 ? 0 : Bench.FONT);
          b.errs(dict(row + "]", "{}", "") + " setfont", k == 0 ? 0 : Bench.FONT);
        }
      }
    }
    fits(b, dict("[0 0 0 0 16383 -16384]", "{}", ""), true);
  }

  /** So of each operator that uses the GRAPHICS' one, as it does: a font may be one no more. */
  private static void fontsThatAreNone(Bench b) {
    String[] spoils = {"/BuildChar 1 put", "/BuildChar undef", "/FontMatrix undef", "/FontMatrix get 0 65 put", "/FontMatrix get 5 null put",
        "/FontMatrix [1] put", "/Encoding 1 put"};
    String set = "/F 9 dict def F /FontMatrix matrix put F /BuildChar {pop pop} put F setfont 1 1 moveto ";
    for (String use : USES) {
      b.errs(set + use, 0);
      for (String spoil : spoils) {
        b.errs(set + "F " + spoil + " " + use, Bench.FONT);
      }
    }
    // As it does: while it isn't used it doesn't matter.
    b.errs(set + "F /BuildChar 1 put gsave grestore 1 1 lineto F /BuildChar {pop pop} put (a) show", 0);
    b.errs(set + "/k F definefont pop F /BuildChar 1 put /k findfont pop", 0);
    b.errs(set + "/k F definefont pop F /BuildChar 1 put /k findfont setfont", Bench.FONT);
  }

  private static void noFontSet(Bench b) {
    for (String use : USES) {
      b.errs("1 1 moveto " + use, Bench.FONT);
      b.errs("gsave " + font("pop pop") + "grestore 1 1 moveto " + use, Bench.FONT);
    }
  }

  /** The FONT of k from then on; a 21st: LIMIT; FONT, if k has none. */
  private static void fontNames(Bench b) {
    String set = "/G " + dict("matrix", "{}", "") + " def ";
    b.bound(set + "1 1 ? {G definefont pop} for", "20", "21", Bench.LIMIT);
    PaintTongue x = Bench.ran(set + "1 1 21 {G definefont pop} for");
    b.due("20 fonts", x.look(15), 20);
    b.due("definefont is blamed", Bench.blamed(x), "definefont");
    b.due("its operands stay", Bench.operands(x), "0:21 10:2");
    b.errs(set + "1 1 20 {G definefont pop} for 1 1 20 {G 2 scalefont definefont pop} for 20 findfont", 0);
    b.errs(set + "1 1 20 {G definefont pop} for 0 findfont", Bench.FONT);
    b.errs(set + "1 G definefont pop true findfont", Bench.FONT);
    b.errs(set + "1 G definefont pop /1 findfont", Bench.FONT);
    b.errs(set + "(a) G definefont pop /a findfont /a cvx findfont", 0);
    b.gives(set + "/a G definefont G eq /b G 2 scalefont definefont pop /b findfont G eq", "2:1 2:0");
    b.gives(set + "/a G definefont pop /a G 3 scalefont definefont pop /a findfont /FontMatrix get 0 get", "1:196608");
    b.due("one key, one font", Bench.ran(set + "/a G definefont pop (a) G definefont pop /a cvx G definefont pop").look(15), 1);
  }

  /** x as FIXED, z; then FONT; the product's bounds: RANGE. */
  private static void scaling(Bench b) {
    String two = dict("[2 0 0 2 0 0]", "{}", "") + " ";
    b.bounds(two + "? scalefont", -32, 32, Bench.RANGE);
    b.bound(two + "? scalefont", "32.0", "32.00002", Bench.RANGE);
    b.bound(two + "? scalefont", "-32.0", "-32.00001", Bench.RANGE);
    b.bound(two + "[? 0 0 1 0 0] makefont", "32", "32.00002", Bench.RANGE);
    b.bound(two + "[0 0 0 ? 0 0] makefont", "-32", "-32.00001", Bench.RANGE);
    b.bound(dict("[0 0 0 0 2 0]", "{}", "") + " ? scalefont", "16383.99999", "16384", Bench.RANGE);
    b.bound(dict("[0 0 0 0 0 2]", "{}", "") + " ? scalefont", "-16384", "-16384.00001", Bench.RANGE);
    b.bound(dict("[0 0 0 0 1 1]", "{}", "") + " [1 0 0 1 ? 0] makefont", "32766", "32767", Bench.RANGE);
    // x is any FIXED: its own bounds are not a MATRIX's.
    b.gives(dict("[.01 0 0 .01 0 0]", "{}", "") + " 1000 scalefont /FontMatrix get 0 get", "1:655000");
    b.gives(dict("[0 0 0 0 0 0]", "{}", "") + " 32767.99999 scalefont /FontMatrix get 0 get", "1:0");
    b.gives(two + "0 scalefont /FontMatrix get 3 get", "1:0");
    for (String none : new String[] {"<< >>", "<< /FontMatrix [1] /BuildChar {} >>"}) {
      b.errs(none + " 40000 scalefont", Bench.RANGE);
      b.errs(none + " 100 scalefont", Bench.FONT);
      b.errs(none + " [1] makefont", Bench.RANGE);
      b.errs(none + " [65 0 0 1 0 0] makefont", Bench.RANGE);
      b.errs(none + " [64 0 0 1 0 0] makefont", Bench.FONT);
      b.errs(none + " [1 0 0 1 0 null] makefont", Bench.TYPE);
    }
    b.errs(two + "[33 0 0 1 0 0] makefont", Bench.RANGE);
    b.prints(dict("[1 2 3 4 5 6]", "{}", "") + " [7 8 9 10 11 12] makefont /FontMatrix get ==", "[ 25.0 28.0 57.0 64.0 100.0 112.0 ]\n");
  }

  /** A new DICT, for as many as d, with d's PAIRS, but for FontMatrix a new ROW. */
  private static void copies(Bench b) {
    b.prints("/d 5 dict def d /a 1 put d /FontMatrix [1 0 0 1 0 0] put d /BuildChar {} put d /b (x) put /e d 2 scalefont def "
        + "e maxlength = e length = e {pop =} forall e /b get d /b get eq = e /BuildChar get d /BuildChar get eq = "
        + "e /FontMatrix get == d /FontMatrix get == e d eq =",
        "5\n4\na\nFontMatrix\nBuildChar\nb\ntrue\ntrue\n[ 2.0 0.0 0.0 2.0 0.0 0.0 ]\n[ 1 0 0 1 0 0 ]\nfalse\n");
    b.errs(dict("matrix", "{}", "") + " matrix makefont /x 1 put", Bench.DICTFULL);
    b.prints("/d " + dict("matrix", "{}", "") + " def /e d matrix makefont def d /FontMatrix get e /FontMatrix get eq =", "false\n");
    b.gives("/d " + dict("matrix", "{}", "") + " def d 2 scalefont 3 scalefont /FontMatrix get 0 get d /FontMatrix get 0 get", "1:393216 1:65536");
  }

  /** TYPE; x, y of others as FIXED; FONT; POINT. */
  private static void beginning(Bench b) {
    b.errs(font("pop pop") + "(a) show", Bench.POINT);
    b.errs(font("pop pop") + "() show", Bench.POINT);
    b.errs(font("pop pop") + "1 1 (a) ashow", Bench.POINT);
    b.errs(font("pop pop") + "1 1 1 (a) widthshow", Bench.POINT);
    b.errs(font("pop pop") + "{} (a) kshow", Bench.POINT);
    b.errs(font("pop pop") + "(a) stringwidth", 0);
    for (String text : new String[] {"? 1 (a) ashow", "1 ? (a) ashow", "? 1 97 (a) widthshow", "1 ? 97 (a) widthshow"}) {
      b.errs(text.replace("?", "32768"), Bench.RANGE);
      b.errs(text.replace("?", "1"), Bench.FONT);
      b.errs(font("pop pop") + text.replace("?", "32768"), Bench.RANGE);
      b.errs(font("pop pop") + text.replace("?", "1"), Bench.POINT);
      b.errs(at("pop pop") + text.replace("?", "1"), 0);
    }
    b.fails(font("pop pop") + "(a) show", Bench.POINT, "show", "8:1");
    b.fails("1 2 3 (a) widthshow", Bench.FONT, "widthshow", "0:1 0:2 0:3 8:1");
  }

  /** A turn: FONT, then POINT, RANGE, LIMIT, EXECFULL, OVERFLOW. */
  private static void turnErrors(Bench b) {
    b.fails(at("pop /BuildChar 1 put") + "(ab) show", Bench.FONT, "show", "");
    b.errs(at("pop /BuildChar 1 put") + "(a) show", 0);
    b.fails(at("pop pop") + "{pop pop newpath} (ab) kshow", Bench.POINT, "kshow", "");
    b.fails(at("pop pop") + "{pop pop newpath currentfont /BuildChar 1 put} (ab) kshow", Bench.FONT, "kshow", "");
    b.bound("[? 0 0 1 0 0] setmatrix /F " + dict("[8 0 0 1 0 0]", "{pop pop}", "") + " definefont setfont 0 0 moveto (a) show", "8", "8.00002", Bench.RANGE);
    b.bound("[? 0 0 1 0 0] setmatrix /F " + dict("[8 0 0 1 0 0]", "{pop pop}", "") + " definefont setfont (a) stringwidth", "-8", "-8.00001", Bench.RANGE);
    b.bound("/F " + dict("[1 0 0 1 32767 0]", "{pop pop}", "") + " definefont setfont ? 0 moveto (a) show", ".99999", "1", Bench.RANGE);
    b.bound("/F " + dict("[1 0 0 1 0 -32768]", "{pop pop}", "") + " definefont setfont 0 ? moveto (a) show", "0", "-.00001", Bench.RANGE);
    b.bound(at("pop pop") + "? {gsave} repeat (a) show", "19", "20", Bench.LIMIT);
    String wide = "64 1 scale /F " + dict("[2 0 0 1 0 0]", "{pop pop}", "") + " definefont setfont 0 0 moveto ";
    b.errs(wide + "20 {gsave} repeat (a) show", Bench.RANGE);
    b.errs(wide + "{pop pop newpath} (ab) kshow", Bench.RANGE);
    b.errs(at("pop pop") + "20 {gsave} repeat " + "0 ".repeat(199) + "(a) show", Bench.LIMIT);
    b.errs(at("pop pop") + "0 ".repeat(199) + "(a) show", Bench.OVERFLOW);
    b.errs(at("pop pop") + "0 ".repeat(198) + "(a) show", 0);
    PaintTongue x = Bench.ran(at("pop pop") + ".5 setgray " + "0 ".repeat(199) + "(a) show");
    b.due("a turn with an error keeps nothing", x.look(3) * 100000 + x.graphics(8), 32768);
    b.due("and gives nothing", x.look(0), 199);
  }

  private static void emptyStrings(Bench b) {
    for (String text : new String[] {"() show", "1 1 () ashow", "1 1 97 () widthshow", "{none} () kshow"}) {
      PaintTongue x = Bench.ran(at("none") + text);
      b.due("error of " + text, x.look(10), 0);
      b.due("the point stays: " + text, x.graphics(6), 65536);
      b.due("nothing is left: " + text, x.look(0) + x.look(2) + x.look(3), 0);
    }
    b.gives(font("none") + "() stringwidth", "1:0 1:0");
  }

  /** With an Encoding that is long enough that element of it. */
  private static void encodings(Bench b) {
    for (int length : new int[] {0, 1, 97, 98, 99, 256, 300}) {
      String make = "/e " + length + " array def 0 1 " + (length - 1) + " {e exch dup 1000 add put} for ";
      b.prints(make + "/F " + dict("matrix", "{= pop}", "/Encoding e") + " definefont setfont 0 0 moveto (\\000\\001a\\377) show",
          code(0, length) + code(1, length) + code(97, length) + code(255, length));
    }
    b.prints("/F " + dict("matrix", "{== pop}", "/Encoding [/a {b} null]") + " definefont setfont 0 0 moveto (\\000\\001\\002\\003) show",
        "/a\n{ b }\n-null-\n3\n");
    b.prints("/F " + dict("matrix", "{= pop}", "/Encoding [7 8 9] 1 2 getinterval") + " definefont setfont 0 0 moveto (\\000\\001\\002) show", "8\n9\n2\n");
    b.prints(at("= currentfont eq =") + "(a\\377) show", "97\ntrue\n255\ntrue\n");
  }

  private static String code(int code, int length) {
    return (code < length ? 1000 + code : code) + "\n";
  }

  /** FontMatrix times (the MATRIX with the current point as tx, ty); no path. */
  private static void signMatrices(Bench b) {
    PaintTongue x = Bench.ran("/F " + dict("[1 2 3 4 5 6]", "{pop pop matrix currentmatrix == currentpoint}", "")
        + " definefont setfont [2 0 0 3 50 60] setmatrix 7 8 moveto {(a) show} stopped");
    b.due("its matrix", Bench.printed(x), "[ 2.0 6.0 6.0 12.0 74.0 102.0 ]\n");
    b.due("no point in it", x.look(10), Bench.POINT);
    x = Bench.ran("/F " + dict("[1 2 3 4 5 6]", "{pop pop matrix currentmatrix ==}", "")
        + " definefont setfont [2 0 0 3 50 60] setmatrix 7 8 moveto (a) stringwidth");
    b.due("of stringwidth, from the place 0, 0", Bench.printed(x), "[ 2.0 6.0 6.0 12.0 10.0 18.0 ]\n");
    b.prints(font("pop pop 1 0 setcharwidth matrix currentmatrix 4 get =") + "30 40 translate (ab) stringwidth pop pop", "0.0\n1.0\n");
    b.errs("[0 0 0 0 0 0] setmatrix " + font("pop pop 5 5 setcharwidth") + "1 1 moveto (a) show", 0);
  }

  private static String pointOf(String text) {
    PaintTongue x = Bench.ran(text);
    return x.look(10) + ": " + x.graphics(6) / 65536.0 + " " + x.graphics(7) / 65536.0;
  }

  /** The sign's last setcharwidth, 0 0 without one; of the innermost sign that is not through; UNDEFINED without. */
  private static void widths(Bench b) {
    b.due("none", pointOf(at("pop pop") + "(ab) show"), "0: 1.0 1.0");
    b.due("the last one", pointOf(at("pop pop 9 9 setcharwidth 1 2 setcharwidth") + "(ab) show"), "0: 3.0 5.0");
    b.due("none of the sign ahead", pointOf(at("exch pop 97 eq {1 0 setcharwidth} if") + "(ab) show"), "0: 2.0 1.0");
    b.due("a sign in a sign", pointOf(at("exch pop 97 eq {1 0 setcharwidth 0 0 moveto (b) show 5 0 setcharwidth} {7 0 setcharwidth} ifelse")
        + "(a) show"), "0: 6.0 1.0");
    b.due("behind the inner one", pointOf(at("exch pop 97 eq {1 0 setcharwidth 0 0 moveto (b) show} {7 0 setcharwidth} ifelse") + "(a) show"), "0: 2.0 1.0");
    b.due("of stringwidth in a sign", pointOf(at("exch pop 97 eq {(b) stringwidth setcharwidth} {7 1 setcharwidth} ifelse") + "(a) show"), "0: 8.0 2.0");
    b.fails("1 1 setcharwidth", Bench.UNDEFINED, "setcharwidth", "0:1 0:1");
    b.fails(at("pop pop") + "(a) show 1 1 setcharwidth", Bench.UNDEFINED, "setcharwidth", "0:1 0:1");
    b.fails(at("pop pop") + "{pop pop 1 1 setcharwidth} (ab) kshow", Bench.UNDEFINED, "setcharwidth", "0:1 0:1");
    b.due("by the outer sign of a kshow in it",
        pointOf(at("exch pop 97 eq {0 0 moveto {pop pop 4 0 setcharwidth} (bc) kshow} {9 0 setcharwidth} ifelse") + "(a) show"), "0: 5.0 1.0");
    b.errs("32768 1 setcharwidth", Bench.RANGE);
  }

  /** RANGE, LIMIT of PART 5: it STOPS. */
  private static void bounds(Bench b) {
    b.bound(font("pop pop ? 0 setcharwidth") + "1 1 moveto (a) show", "1999", "1999.00002", Bench.RANGE);
    b.bound(font("pop pop 0 ? setcharwidth") + "1 1 moveto (a) show", "-2001", "-2001.00001", Bench.RANGE);
    b.bound(font("pop pop 1000 0 setcharwidth") + "0 0 moveto (?) show", "aa", "aaa", Bench.RANGE);
    b.bound(font("pop pop ? 0 setcharwidth") + "(a) stringwidth", "2000", "2000.00002", Bench.RANGE);
    b.bound(font("pop pop 1000 0 setcharwidth") + "(?) stringwidth", "aa", "aaa", Bench.RANGE);
    b.bound(at("pop pop") + "? {.01 0 rlineto} repeat (a) show", "298", "299", Bench.LIMIT);
    b.errs(at("pop pop") + "298 {.01 0 rlineto} repeat (abc) show", 0);
    PaintTongue x = Bench.ran(at("pop pop 2000 0 setcharwidth .5 setgray") + "(a) show");
    b.due("show is blamed", Bench.blamed(x), "show");
    b.due("the sign is through", x.look(3) * 100 + x.graphics(8) + x.look(2), 0);
    b.due("the point stays", x.graphics(6), 65536);
    x = Bench.ran(at("pop pop 2001 0 setcharwidth .5 setgray") + "(a) stringwidth");
    b.due("stringwidth is blamed", Bench.blamed(x), "stringwidth");
    b.due("its graphics too are back", x.look(3) * 100 + x.graphics(8) + x.graphics(6), 65536);
  }

  /** Each DISTANCE is a FIXED by itself. */
  private static void distances(Bench b) {
    String flat = "[0 0 0 0 0 0] setmatrix ";
    String wide = "/F " + dict("[2 0 0 2 0 0]", "{pop pop ? 0 setcharwidth}", "") + " definefont setfont ";
    b.bound(flat + wide + "0 0 moveto (a) show", "16383.99999", "16384", Bench.RANGE);
    b.bound(flat + wide + "0 0 moveto (a) show", "-16384", "-16384.00001", Bench.RANGE);
    b.bound(flat + wide + "(a) stringwidth", "16383.99999", "16384", Bench.RANGE);
    String back = font("pop pop -512 0 setcharwidth") + "64 1 scale 0 0 moveto ";
    b.bound(back + "? 0 (a) ashow", "511.99998", "512", Bench.RANGE);
    b.bound(back + "? 0 97 (a) widthshow", "511.99998", "512", Bench.RANGE);
    b.errs(back + "512 0 98 (a) widthshow", Bench.RANGE);
    b.errs(back.replace("-512", "-10") + "512 0 98 (a) widthshow", 0);
  }

  /** x, y behind each sign; behind each byte i. */
  private static void spacing(Bench b) {
    String narrow = at("pop pop 2 0 setcharwidth");
    b.due("ashow of none", pointOf(narrow + "1 .5 () ashow"), "0: 1.0 1.0");
    b.due("ashow of one", pointOf(narrow + "1 .5 (a) ashow"), "0: 4.0 1.5");
    b.due("ashow of two", pointOf(narrow + "-3 .5 (ab) ashow"), "0: -1.0 2.0");
    b.due("widthshow of its byte", pointOf(narrow + "1 .5 97 (aba) widthshow"), "0: 9.0 2.0");
    for (String i : new String[] {"-1", "0", "98", "256", "353", "-159", "2147483647"}) {
      b.due("widthshow of " + i, pointOf(narrow + "1 .5 " + i + " (a) widthshow"), "0: 3.0 1.0");
    }
    b.due("widthshow of 0 and 255", pointOf(narrow + "1 .5 0 (\\000) widthshow 5 0 255 (\\377) widthshow"), "0: 11.0 1.5");
    // By that MOVE: a sign whose width leads beyond the bounds may come back by x, y.
    b.due("one move", pointOf(font("pop pop 2500 0 setcharwidth") + "0 0 moveto -1000 0 (a) ashow"), "0: 1500.0 0.0");
    b.errs(font("pop pop 1500 0 setcharwidth") + "0 0 moveto 1000 0 (a) ashow", Bench.RANGE);
    b.due("under a matrix without tx, ty", pointOf("[2 1 0 3 9 9] setmatrix " + font("pop pop 1 0 setcharwidth") + "0 0 moveto 1 1 (a) ashow"), "0: 13.0 14.0");
  }

  /** Between two signs a turn: both bytes, then p. */
  private static void between(Bench b) {
    String narrow = at("pop pop 2 0 setcharwidth");
    b.gives(narrow + "{7} () kshow", "");
    b.gives(narrow + "{7} (a) kshow", "");
    b.gives(narrow + "{7} (ab) kshow", "0:97 0:98 0:7");
    b.gives(narrow + "{} (abc) kshow", "0:97 0:98 0:98 0:99");
    b.gives(narrow + "{pop pop} (abc) kshow currentpoint", "1:458752 1:65536");
    b.due("a point that p moves", pointOf(narrow + "{pop pop 5 5 moveto} (ab) kshow"), "0: 7.0 5.0");
    b.due("exit", pointOf(narrow + "{pop pop exit} (abc) kshow"), "0: 3.0 1.0");
    int head = Bench.ran(narrow).look(11);
    b.due("steps", Bench.ran(narrow + "{pop pop} (abc) kshow").look(11) - head, 3 + 3 * 6 + 2 * 3);
  }

  /** The FONT and the byte, i's too, are those of then; FontMatrix as it was at the turn. */
  private static void ofThen(Bench b) {
    b.prints("/s (abc) def " + at("= pop s 1 120 put s 2 121 put") + "s show", "97\n120\n121\n");
    b.due("widthshow's byte", pointOf("/s (aa) def " + at("pop pop s 0 98 put s 1 98 put") + "4 0 97 s widthshow"), "0: 5.0 1.0");
    b.gives("/s (ab) def " + at("pop pop") + "{s 0 120 put s 1 121 put} s kshow s 1 get", "0:97 0:98 0:121");
    b.due("FontMatrix at the turn", pointOf("/F 3 dict def F /FontMatrix [2 0 0 2 0 0] put F /BuildChar {pop pop 3 0 setcharwidth "
        + "F /FontMatrix [9 0 0 9 0 0] put} put F setfont 0 0 moveto (a) show"), "0: 6.0 0.0");
    b.due("a new font between two signs", pointOf(at("pop pop 2 0 setcharwidth") + "{pop pop currentfont 3 scalefont setfont} (ab) kshow"), "0: 9.0 1.0");
    b.due("a font that a sign sets goes with it", pointOf(at("pop pop 2 0 setcharwidth currentfont 3 scalefont setfont") + "(ab) show"), "0: 5.0 1.0");
    b.prints("/F 3 dict def F /FontMatrix matrix put F /BuildChar {pop pop 1 = F /BuildChar {pop pop 2 =} put} put F setfont 0 0 moveto (aa) show", "1\n2\n");
  }

  /** GRAPHICS as kept at last; the path is a MOVE to the place 0, 0 in between. */
  private static void stringWidths(Bench b) {
    PaintTongue x = Bench.ran("[2 0 0 3 9 9] setmatrix " + at("pop pop 2 1 setcharwidth .5 setgray") + ".25 setgray 4 4 lineto (abc) stringwidth");
    b.due("the sums of what FontMatrix made", Bench.operands(x), "1:393216 1:196608");
    b.due("the path", x.look(12), 2);
    b.due("the grey", x.graphics(8), 16384);
    b.due("the matrix", x.graphics(4), 9 * 65536);
    b.due("nothing is kept", x.look(3) + x.look(6), 0);
    b.due("without a point there is none behind it", Bench.ran(font("pop pop") + "(a) stringwidth").look(16), 0);
    b.gives("/F " + dict("[2 1 0 3 7 7]", "{pop pop 1 1 setcharwidth}", "") + " definefont setfont (ab) stringwidth", "1:262144 1:524288");
    b.gives("[0 0 0 0 0 0] setmatrix " + font("pop pop 1 1 setcharwidth") + "(ab) stringwidth", "1:131072 1:131072");
    x = Bench.ran(font("pop pop 1 0 setcharwidth") + "(ab) stringwidth");
    int head = Bench.ran(font("pop pop 1 0 setcharwidth")).look(11);
    b.due("steps", x.look(11) - head, 2 + 2 * 6);
    b.prints(at("pop pop currentgray = 0 0 transform exch = = .5 setgray gsave 2 0 setcharwidth") + "(abc) stringwidth pop pop",
        "0.0\n0.0\n0.0\n0.0\n2.0\n0.0\n0.0\n4.0\n0.0\n");
    x = Bench.ran(at("pop pop") + "[2 3 4 5 6 7] setmatrix 1 1 lineto");
    Bench.tape(x, "(a) stringwidth 9");
    x.start();
    x.run(2);
    b.due("the matrix is without tx, ty", x.graphics(4) * 10L + x.graphics(5), 0);
    b.due("all else of it is there", (((x.graphics(0) * 10L + x.graphics(1)) * 10 + x.graphics(2)) * 10 + x.graphics(3)) / 65536, 2345);
    b.due("the path is a move", x.look(12) * 10 + x.part(0, 0), 10);
    b.due("to 0, 0", x.part(0, 1) * 10L + x.part(0, 2), 0);
    b.due("the graphics are kept", x.look(3) * 10 + x.look(2), 12);
    x.run(20000);
    b.due("then all is as before", x.look(12) * 10 + (x.graphics(4) + x.graphics(5)) / 65536, 33);
  }

  /** x, y the sums: RANGE. */
  private static void widthSums(Bench b) {
    String flat = "[0 0 0 0 0 0] setmatrix ";
    String each = font("exch pop 97 eq {16384 0} {? 0} ifelse setcharwidth");
    b.bound(flat + each + "(ab) stringwidth", "16383.99999", "16384", Bench.RANGE);
    b.bound(flat + each.replace("16384", "-16384") + "(ab) stringwidth", "-16384", "-16384.00001", Bench.RANGE);
    b.bound(flat + each.replace(" 0} {? 0", " 0 exch} {? 0 exch") + "(ab) stringwidth", "16383.99999", "16384", Bench.RANGE);
    PaintTongue x = Bench.ran(flat + each.replace("?", "16384") + ".5 setgray (ab) stringwidth");
    b.due("it is blamed", Bench.blamed(x), "stringwidth");
    b.due("graphics as kept", x.look(3) * 100000 + x.graphics(8), 32768);
    b.gives(flat + each.replace("?", "-16384") + "(ab) stringwidth", "1:0 1:0");
  }

  /** Nothing is painted, nor erased; all costs stay; a page may be OUT. */
  private static void mute(Bench b) {
    String[] paints = {BOX, BOX.replace("fill", "eofill"), BOX.replace("fill", "stroke"), "8 8 1 matrix {8 string} image ",
        "8 8 true matrix {<ffffffffffffffff>} imagemask "};
    for (String paint : paints) {
      PaintTongue x = Bench.ran(8, 8, at("pop pop " + paint) + "(a) stringwidth pop pop");
      b.due("error of " + paint, x.look(10), 0);
      b.due("nothing painted by " + paint, x.look(13), 0);
      int silent = x.look(11);
      x = Bench.ran(8, 8, at("pop pop " + paint) + "(a) show");
      b.due("painted by a show of " + paint, x.look(13) > 0 ? 1 : 0, 1);
      b.due("all costs stay: " + paint, silent, x.look(11) + 2);
      x = Bench.ran(8, 8, at("exch pop 97 eq {0 0 moveto (b) show} {" + paint + "} ifelse") + "(a) stringwidth pop pop");
      b.due("nor by a show in it: " + paint, x.look(13) * 100 + x.look(10), 0);
      Bench.more(x, "newpath " + paint);
      b.due("painted behind it: " + paint, x.look(13) > 0 ? 1 : 0, 1);
    }
    PaintTongue x = Bench.ran(8, 8, BOX + at("pop pop erasepage showpage") + "(ab) stringwidth");
    b.due("nothing is erased", x.look(13), 1);
    b.due("pages are out", x.look(9) * 10 + x.pixel(1, 0, 0), 21);
    x = Bench.ran(8, 8, BOX + at("pop pop erasepage") + "(a) show");
    b.due("by a show it is", x.look(13), 0);
    x = Bench.ran(8, 8, "{" + at("pop pop stop") + "(a) stringwidth} stopped " + BOX);
    b.due("painted behind one that was stopped", x.look(13), 1);
    x = Bench.ran(8, 8, at("exch pop 97 eq {0 0 moveto (b) stringwidth pop pop " + BOX + "} {" + BOX + "} ifelse") + "(a) show");
    b.due("painted in a sign behind a stringwidth in it", x.look(13), 1);
  }

  /** That of a sign stays; GRAPHICS become as the sign kept them, those and all kept behind go. */
  private static void keptBySigns(Bench b) {
    PaintTongue x = Bench.ran(".25 setgray " + at("pop pop .5 setgray grestore currentgray = .5 setgray gsave gsave grestoreall currentgray = "
        + "vmstatus pop = gsave gsave") + "(a) show");
    b.due("grestore and grestoreall in a sign", Bench.printed(x), "0.25\n0.25\n0\n");
    b.due("nothing stays kept", x.look(3), 0);
    b.due("as ahead of it", x.graphics(8), 16384);
    x = Bench.ran("gsave gsave " + at("pop pop grestoreall grestoreall grestore") + "(ab) show");
    b.due("those ahead of it stay", x.look(3), 2);
    x = Bench.ran(at("pop pop newpath 5 5 moveto 6 6 lineto 3 3 scale initgraphics showpage") + "2 2 lineto (a) show");
    b.due("the path is as the sign kept it, with its move", x.look(12) * 10 + x.part(2, 0), 30);
    b.due("the matrix too", x.graphics(0), 65536);
    b.errs(at("pop pop 18 {gsave} repeat") + "(ab) show gsave", 0);
    b.errs(at("pop pop 20 {gsave} repeat") + "(ab) show", Bench.LIMIT);
  }

  /** SAVES made since are LIVE no more. */
  private static void savesInSigns(Bench b) {
    PaintTongue x = Bench.ran("save " + at("pop pop save pop save pop") + "(abc) show");
    b.due("the one ahead of them is", x.look(6) * 10 + x.look(3), 11);
    x = Bench.ran("save " + at("pop pop save pop") + "(abc) stringwidth");
    b.due("of stringwidth likewise", x.look(6) * 10 + x.look(3), 11);
    b.errs(at("pop pop 9 {save pop} repeat") + "save pop (ab) show", 0);
    b.errs(at("pop pop 10 {save pop} repeat") + "save pop (ab) show", Bench.LIMIT);
    b.errs(at("pop pop save /q [1 2] def restore") + "(ab) show", 0);
    b.gives(at("pop pop /q 1 def save /q 2 def restore q") + "(a) show", "0:1");
  }

  /** Of signs that go so GRAPHICS become as the first one of them had kept them. */
  private static void stopsInSigns(Bench b) {
    for (String show : new String[] {"(ab) show", "1 1 (ab) ashow", "1 1 97 (ab) widthshow", "{} (ab) kshow", "(ab) stringwidth"}) {
      for (String end : new String[] {"stop", "none", "1 0 div", "gsave save stop", "0 0 moveto (x) stringwidth"}) {
        String build = end.contains("(x)") ? "exch pop 120 eq {stop} {.5 setgray gsave " + end + "} ifelse" : "pop pop .5 setgray 9 9 moveto " + end;
        PaintTongue x = Bench.ran(".25 setgray gsave " + at(build) + "{" + show + "} stopped");
        b.due("caught: " + show + " with " + end, x.top(0, 0) * 10 + x.top(0, 1), 21);
        b.due("kept: " + show + " with " + end, x.look(3), 1);
        b.due("live: " + show + " with " + end, x.look(6), 0);
        b.due("grey: " + show + " with " + end, x.graphics(8), 16384);
        b.due("point: " + show + " with " + end, x.graphics(6), 65536);
        b.due("under way: " + show + " with " + end, x.look(2), 0);
      }
    }
    // Between two signs there is none: the graphics stay as they are.
    PaintTongue y = Bench.ran(at("pop pop 2 0 setcharwidth") + "{{pop pop gsave .5 setgray stop} (ab) kshow} stopped");
    b.due("stopped between two signs", Bench.operands(y) + y.look(3) + y.graphics(8), "2:1132768");
    b.due("the first one was through", y.graphics(6), 3 * 65536);
    b.fails("1 1 1 matrix {1 0 setcharwidth <00>} image", Bench.UNDEFINED, "setcharwidth", "0:1 0:0");
    b.fails(at("pop pop 2 0 setcharwidth") + "{pop pop 1 0 setcharwidth} (ab) kshow", Bench.UNDEFINED, "setcharwidth", "0:1 0:0");
    // A STOPPED within the sign: the sign goes on.
    PaintTongue x = Bench.ran(at("pop pop {.5 setgray stop} stopped pop currentgray = 2 0 setcharwidth") + "(a) show");
    b.due("caught in the sign", Bench.printed(x) + x.graphics(6) / 65536, "0.5\n3");
    x = Bench.ran(at("exch pop 97 eq {.5 setgray {(b) stringwidth} stopped pop currentgray = 2 0 setcharwidth} {.7 setgray stop} ifelse") + "(a) show");
    b.due("a sign in a sign is stopped", Bench.printed(x) + x.graphics(6) / 65536, "0.5\n3");
  }
}
