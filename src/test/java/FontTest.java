/** PART 6: fonts, signs, and how they end. */
public final class FontTest {
  private static final String BOX = "0 0 moveto 2 0 lineto 2 2 lineto 0 2 lineto fill";
  private static final String SET = "/F << /FontMatrix [1 0 0 1 0 0] /BuildChar {pop pop 3 0 setcharwidth " + BOX
      + "} >> definefont setfont ";

  public static void main(String[] args) {
    Bench b = new Bench("FontTest");
    fonts(b);
    noFonts(b);
    scaled(b);
    showing(b);
    codes(b);
    spaced(b);
    distances(b);
    between(b);
    widths(b);
    keeping(b);
    restoring(b);
    errors(b);
    b.close();
  }

  private static String font(String build) {
    return "/F << /FontMatrix [1 0 0 1 0 0] /BuildChar {" + build + "} >> definefont setfont ";
  }

  private static void fonts(Bench b) {
    b.prints(SET + "currentfont /F findfont eq = currentfont length =", "true\n2\n");
    b.prints("/G 5 dict def G /FontMatrix matrix put G /BuildChar {} put (name) G definefont pop /name findfont maxlength = "
        + "1 G definefont pop 1 findfont length =", "5\n2\n");
    PaintTongue x = Bench.ran("/G << /FontMatrix matrix /BuildChar {} >> def 1 1 20 {G definefont pop} for");
    b.due("20 fonts", x.look(15), 20);
    Bench.more(x, "7 G definefont pop");
    b.due("one again", x.look(10), 0);
    Bench.more(x, "21 G definefont pop");
    b.due("a 21st", x.look(10), 14);
    b.due("20 still", x.look(15), 20);
    x = Bench.ran("/G << /FontMatrix matrix /BuildChar {} >> def save /k G definefont pop restore");
    b.due("fonts go with a restore", x.look(15), 0);
  }

  private static void noFonts(Bench b) {
    String[] bad = {"<< >>", "<< /FontMatrix matrix >>", "<< /BuildChar {} >>", "<< /FontMatrix [1] /BuildChar {} >>",
        "<< /FontMatrix [1 0 0 /a 0 0] /BuildChar {} >>", "<< /FontMatrix [65 0 0 1 0 0] /BuildChar {} >>",
        "<< /FontMatrix matrix /BuildChar [] >>", "<< /FontMatrix matrix /BuildChar {} /Encoding 5 >>",
        "<< /FontMatrix 3 /BuildChar {} >>"};
    for (String dict : bad) {
      for (String text : new String[] {"/k " + dict + " definefont", dict + " setfont", dict + " 2 scalefont",
          dict + " matrix makefont"}) {
        PaintTongue x = Bench.ran(text);
        b.due("error of " + text, x.look(10), 13);
        b.due("run of " + text, x.run(0), 2);
      }
    }
    b.fails("/none findfont", 13, "findfont", "5:4");
    b.fails("currentfont", 13, "currentfont", "");
    b.fails("(a) show", 13, "show", "8:1");
    b.fails("(a) stringwidth", 13, "stringwidth", "8:1");
    b.fails("40000 0 (a) ashow", 4, "ashow", "0:40000 0:0 8:1");
    b.fails("{} (a) kshow", 13, "kshow", "9:0x 8:1");
    b.fails("1 2 3 (a) widthshow", 13, "widthshow", "0:1 0:2 0:3 8:1");
    b.fails("1 2 3.0 (a) widthshow", 3, "widthshow", "0:1 0:2 1:196608 8:1");
    b.fails(SET + "(a) show", 15, "show", "8:1");
    b.fails(SET + "currentfont /BuildChar 5 put currentfont", 13, "currentfont", "");
    b.fails("[1] definefont", 1, "definefont", "9:1");
    b.fails("/k [1] definefont", 3, "definefont", "5:1 9:1");
    b.fails("() << >> definefont", 4, "definefont", "8:0 10:0");
  }

  private static void scaled(Bench b) {
    b.prints(SET + "currentfont 2 scalefont dup /FontMatrix get == dup maxlength = /F findfont /FontMatrix get == pop",
        "[ 2.0 0.0 0.0 2.0 0.0 0.0 ]\n2\n[ 1 0 0 1 0 0 ]\n");
    b.prints(SET + "currentfont [1 2 3 4 5 6] makefont /FontMatrix get ==", "[ 1.0 2.0 3.0 4.0 5.0 6.0 ]\n");
    b.prints("<< /a 1 /FontMatrix [.01 0 0 .01 1 1] /BuildChar {} >> 100 scalefont dup {pop =} forall /FontMatrix get 4 get =",
        "a\nFontMatrix\nBuildChar\n100.0\n");
    PaintTongue x = Bench.ran(SET);
    int room = x.look(4);
    Bench.more(x, "currentfont 3 scalefont");
    b.due("room of a font for two and of a row", x.look(4) - room, 6 + 7);
    b.fails(SET + "currentfont 65 scalefont", 4, "scalefont", "10:2 0:65");
    b.fails(SET + "currentfont 40000 scalefont", 4, "scalefont", "10:2 0:40000");
    b.fails(SET + "currentfont [1] makefont", 4, "makefont", "10:2 9:1");
    b.fails(SET + "currentfont [1 0 0 1 0 /a] makefont", 3, "makefont", "10:2 9:6");
  }

  private static void showing(Bench b) {
    PaintTongue x = Bench.ran(16, 8, SET + "1 1 moveto (ab) show");
    b.due("two signs", Bench.rows(x, -1, 4), "................\n.##.##..........\n.##.##..........\n................\n");
    b.due("the current point", x.graphics(6), 7 * 65536);
    b.due("a move in the place of a move", x.look(12), 1);
    x = Bench.ran(16, 8, SET + "currentfont 2 scalefont setfont [1 0 0 1 2 0] setmatrix 0 0 moveto (a) show currentpoint");
    b.due("scaled", Bench.rows(x, -1, 5), "................\n..####..........\n..####..........\n..####..........\n"
        + "..####..........\n");
    b.due("its point", Bench.operands(x), "1:393216 1:0");
    x = Bench.ran(SET + "1 1 moveto 5 5 lineto (a) show");
    b.due("a move behind a line", x.part(2, 0) * 100 + x.look(12), 3);
    x = Bench.ran(SET + "1 1 moveto (abc) show");
    b.due("steps", x.look(11), Bench.ran(SET + "1 1 moveto").look(11) + 2 + 3 * (1 + 18 + 4));
    x = Bench.ran(font("pop pop") + "2 3 moveto (abc) show");
    b.due("no width", x.graphics(6), 2 * 65536);
    x = Bench.ran(font("pop pop 9 9 setcharwidth 1 2 setcharwidth") + "0 0 moveto (ab) show");
    b.due("the last width", x.graphics(6) + x.graphics(7), 6 * 65536);
    b.due("an empty string", Bench.ran(SET + "1 1 moveto () show").look(10), 0);
  }

  private static void codes(Bench b) {
    b.prints(font("= type =") + "0 0 moveto (AB) show", "65\ndicttype\n66\ndicttype\n");
    b.prints("/F << /FontMatrix matrix /BuildChar {= pop} /Encoding [/x (y) 3] >> definefont setfont 0 0 moveto "
        + "(\\000\\001\\002\\003) show", "x\ny\n3\n3\n");
    b.prints("/s (AB) def " + font("= pop s 1 90 put") + "0 0 moveto s show", "65\n90\n");
  }

  private static void spaced(Bench b) {
    String narrow = font("pop pop 2 0 setcharwidth") + "0 0 moveto ";
    b.due("ashow", point(narrow + "1 .5 (abc) ashow"), "9.0 1.5");
    b.due("widthshow", point(narrow + "1 .5 98 (abcb) widthshow"), "10.0 1.0");
    b.due("widthshow of no byte", point(narrow + "1 .5 354 (abcb) widthshow"), "8.0 0.0");
    b.due("under a matrix", point(narrow.replace("0 0 moveto", "2 3 scale 0 0 moveto") + "1 1 (a) ashow"), "6.0 3.0");
  }

  /** Each DISTANCE is a FIXED by itself, also where their sum is a place. */
  private static void distances(Bench b) {
    String zoomed = "64 1 scale 0 0 moveto ";
    String back = font("pop pop -500 0 setcharwidth") + zoomed;
    b.fails(font("pop pop 600 0 setcharwidth") + zoomed + "-590 0 (a) ashow", 4, "ashow", "");
    b.fails(back + "515 0 97 (a) widthshow", 4, "widthshow", "");
    b.fails(back + "515 0 (a) ashow", 4, "ashow", "");
    b.due("both are FIXED", point(back + "510 0 (a) ashow"), "640.0 0.0");
    b.due("behind another byte it isn't made", point(font("pop pop 1 0 setcharwidth") + zoomed + "515 0 98 (a) widthshow"),
        "64.0 0.0");
    String upwards = "1 64 scale 0 0 moveto ";
    b.fails(font("pop pop 0 600 setcharwidth") + upwards + "0 -590 (a) ashow", 4, "ashow", "");
    b.fails(font("pop pop 0 -500 setcharwidth") + upwards + "0 515 97 (a) widthshow", 4, "widthshow", "");
    b.due("the least FIXED is one", point(font("pop pop -512 0 setcharwidth") + zoomed + "511 0 (a) ashow"), "-64.0 0.0");
    b.fails(font("pop pop 512 0 setcharwidth") + zoomed + "-511 0 (a) ashow", 4, "ashow", "");
    String wide = "/F << /FontMatrix [64 0 0 1 0 0] /BuildChar {pop pop 600 0 setcharwidth} >> definefont setfont ";
    b.fails(wide + "0 1 scale 0 0 moveto (a) show", 4, "show", "");
    b.fails(wide + "0 1 scale (a) stringwidth", 4, "stringwidth", "");
  }

  private static String point(String text) {
    PaintTongue x = Bench.ran(text);
    return x.graphics(6) / 65536.0 + " " + x.graphics(7) / 65536.0;
  }

  private static void between(Bench b) {
    String narrow = font("pop pop 2 0 setcharwidth") + "0 0 moveto ";
    b.prints(narrow + "{= =} (abc) kshow", "98\n97\n99\n98\n");
    b.prints(narrow + "{= =} (a) kshow {= =} () kshow", "");
    b.due("a procedure that moves", point(narrow + "{pop pop 5 1 rmoveto} (abc) kshow"), "16.0 2.0");
    b.due("exit", point(narrow + "{pop pop exit} (abc) kshow"), "2.0 0.0");
    b.fails(narrow + "{pop pop newpath} (abc) kshow", 15, "kshow", "");
    b.fails(font("pop pop exit") + "0 0 moveto {} (abc) kshow", 11, "exit", "");
    b.fails(font("pop pop exit") + "0 0 moveto {(abc) show} loop", 11, "exit", "");
    b.due("a restore between two signs", point("/s (ab) def /p {pop pop v restore} def " + narrow
        + "1 1 moveto /v save def 7 7 moveto /p load s kshow"), "3.0 1.0");
  }

  private static void widths(Bench b) {
    b.prints(SET + "(abc) stringwidth = = () stringwidth = =", "0.0\n9.0\n0.0\n0.0\n");
    b.prints(SET + "currentfont [2 1 0 1 0 0] makefont setfont 3 3 scale (ab) stringwidth = =", "6.0\n12.0\n");
    PaintTongue x = Bench.ran(SET + "5 6 moveto .5 setgray (abc) stringwidth pop pop");
    b.due("nothing is painted", x.look(13), 0);
    b.due("the point stays", x.graphics(6), 5 * 65536);
    b.due("nothing is kept", x.look(3), 0);
    int head = Bench.ran(SET + "5 6 moveto .5 setgray").look(11);
    b.due("all costs stay", x.look(11), head + 2 + 3 * (1 + 18 + 4) + 2);
    x = Bench.ran(8, 8, "0 0 moveto 8 0 lineto 8 8 lineto 0 8 lineto fill " + font("pop pop erasepage showpage") + "(a) stringwidth");
    b.due("nothing is erased", x.look(13), 64);
    b.due("a page may be out", x.look(9), 1);
    b.due("with what is there", x.pixel(0, 7, 7), 1);
    b.prints("7 8 translate " + font("pop pop 0 0 transform = = 1 0 setcharwidth") + "(ab) stringwidth pop pop", "0.0\n0.0\n0.0\n1.0\n");
    b.fails(font("pop pop 2001 0 setcharwidth") + "(a) stringwidth", 4, "stringwidth", "");
    b.fails(font("pop pop 0 0 setcharwidth") + "20 {gsave} repeat (a) stringwidth", 14, "stringwidth", "8:1");
    b.fails(font("pop pop 0 0 setcharwidth") + "19 {gsave} repeat (a) stringwidth", 14, "stringwidth", "");
    x = Bench.ran(font("pop pop") + "199 {0} repeat (a) stringwidth");
    b.due("no room for the signs' operands", x.look(10), 2);
    b.due("the graphics are as ahead of it", x.look(3), 0);
  }

  private static void keeping(Bench b) {
    PaintTongue x = Bench.ran(font("pop pop gsave .5 setgray gsave 2 0 setcharwidth") + ".25 setgray 1 1 moveto (ab) show");
    b.due("grey behind the signs", x.graphics(8), 16384);
    b.due("nothing is kept behind them", x.look(3), 0);
    x = Bench.ran(font("pop pop .5 setgray grestore currentgray = grestoreall currentgray = 1 0 setcharwidth")
        + ".25 setgray 1 1 moveto (a) show");
    b.due("what the sign kept", Bench.printed(x), "0.25\n0.25\n");
    b.due("the point behind it", x.graphics(6), 2 * 65536);
    x = Bench.ran(font("pop pop save pop 1 0 setcharwidth") + "1 1 moveto (a) show");
    b.due("saves of a sign are live no more", x.look(6), 0);
    x = new PaintTongue(16, 16);
    Bench.tape(x, font("pop pop 1 0 setcharwidth") + "1 1 moveto (ab) show");
    x.start();
    int steps = 0;
    while (x.look(3) == 0 && steps < 100) {
      x.run(1);
      steps++;
    }
    b.due("a sign keeps graphics", x.look(3), 1);
    b.due("no point in it", x.look(16), 0);
    b.due("the point is its tx", x.graphics(4), 65536);
    x.run(5);
    b.due("as it is through they are back", x.look(3) * 100 + x.look(16), 1);
    b.due("and moved", x.graphics(6), 2 * 65536);
  }

  private static void restoring(Bench b) {
    b.fails("/v save def " + font("pop pop v restore") + "1 1 moveto (a) show", 12, "restore", "7:0");
    PaintTongue x = Bench.ran(font("pop pop save /q 1 def restore 1 0 setcharwidth") + "1 1 moveto (ab) show /q where");
    b.due("a save of the sign itself", Bench.operands(x), "2:0");
    x = Bench.ran("{" + font("pop pop gsave save .5 setgray stop") + ".25 setgray 3 3 moveto (ab) show} stopped");
    b.due("stopped in a sign: grey", x.graphics(8), 16384);
    b.due("kept", x.look(3), 0);
    b.due("live", x.look(6), 0);
    b.due("point", x.graphics(6), 3 * 65536);
    x = Bench.ran("{" + font("pop pop 9 setlinewidth (b) stringwidth") + "3 3 moveto (a) show} stopped");
    b.due("signs within signs end", x.look(10), 14);
    b.due("kept then", x.look(3), 0);
    b.due("width then", x.graphics(9), 65536);
  }

  private static void errors(Bench b) {
    b.fails("1 2 setcharwidth", 5, "setcharwidth", "0:1 0:2");
    b.fails(font("pop pop 2000 0 setcharwidth") + "1 1 moveto (a) show", 4, "show", "");
    b.fails(font("pop pop 40000 0 setcharwidth") + "1 1 moveto (a) show", 4, "setcharwidth", "0:40000 0:0");
    b.fails(font("pop pop") + "20 {gsave} repeat 1 1 moveto (a) show", 14, "show", "");
    b.fails(font("pop pop") + "64 64 scale [2 0 0 2 0 0] currentfont exch makefont setfont 1 1 moveto (a) show", 4, "show", "");
    PaintTongue x = Bench.ran(font("pop pop") + "1 1 moveto 298 {.01 0 rlineto} repeat (a) show");
    b.due("a 300th point", x.look(10) * 1000 + x.look(12), 300);
    x = Bench.ran(font("pop pop") + "1 1 moveto 299 {.01 0 rlineto} repeat (a) show");
    b.due("a 301st point", x.look(10) * 1000 + x.look(12), 14300);
    x = Bench.ran(font("pop pop") + "1 1 moveto 199 {0} repeat (a) show");
    b.due("no room for its operands", x.look(10), 2);
    b.due("is show's matter", Bench.blamed(x), "show");
    x = Bench.ran(font("pop pop currentfont /BuildChar 1 put") + "1 1 moveto (ab) show");
    b.due("a font that is one no more", x.look(10), 13);
  }
}
