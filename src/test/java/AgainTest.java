/** What was there earlier (a round that was left, a path, a save, names ahead of a reset) is no matter of what comes in its place. */
public final class AgainTest {
  private static final String FONT = "/F << /FontMatrix matrix /BuildChar {%s} >> definefont setfont 1 1 moveto ";

  public static void main(String[] args) {
    Bench b = new Bench("AgainTest");
    names(b);
    roomAfterResets(b);
    roomAfterRestores(b);
    brokenProcedures(b);
    stoppedRounds(b);
    leftRounds(b);
    usedNoMore(b);
    stoppedNames(b);
    paths(b);
    drawing(b);
    widths(b);
    nestedSigns(b);
    signsThatWere(b);
    keptThatWere(b);
    b.close();
  }

  private static void names(Bench b) {
    PaintTongue x = Bench.ran("/one /two /three");
    for (int i = 0; i < 3; i++) {
      b.due("three names", x.look(7), 3);
      x.reset();
      b.due("none behind a reset", x.look(7), 0);
      Bench.more(x, "/two == /three == (one) cvn ==");
      b.due("their bytes", Bench.printed(x), "/two\n/three\n/one\n");
    }
    x = new PaintTongue(8, 8);
    for (int i = 0; i < 3; i++) {
      Bench.more(x, i + " 1000 mul dup 999 add 1 exch {5 string cvs cvn pop} for");
      b.due("a thousand other ones", x.look(7) * 100 + x.look(10), 100000);
      x.reset();
    }
  }

  private static void roomAfterResets(Bench b) {
    PaintTongue x = new PaintTongue(8, 8);
    for (int i = 0; i < 5; i++) {
      Bench.more(x, "94 {500 string pop} repeat");
      b.due("room of strings", x.look(4) * 100 + x.look(10), (94 * 126 + 4) * 100);
      x.reset();
      Bench.more(x, "11 {1000 array pop} repeat 10 {20 dict pop} repeat");
      b.due("room of rows and dicts", x.look(4) * 100 + x.look(10), (11 * 1001 + 4 + 10 * 42 + 4) * 100);
      x.reset();
      Bench.more(x, "200 {save pop} repeat");
      b.due("saves", x.look(6) * 100 + x.look(10), 1000 + Bench.LIMIT);
      x.reset();
    }
  }

  private static void roomAfterRestores(Bench b) {
    String strings = "/p {500 string pop} def 100 {save 80 /p load repeat restore} repeat vmstatus";
    b.gives(strings, "0:0 0:" + (4 + 7));
    String rows = "/p {1000 array pop 1 dict pop} def 100 {save 10 /p load repeat restore} repeat vmstatus";
    b.gives(rows, "0:0 0:" + (7 + 7));
    b.prints("/r [1 2 3] def 50 {save r 0 9 put [4 5 6] pop restore} repeat r == [7 8] == r ==", "[ 1 2 3 ]\n[ 7 8 ]\n[ 1 2 3 ]\n");
  }

  /** A procedure that was refused leaves nothing behind. */
  private static void brokenProcedures(Bench b) {
    PaintTongue x = Bench.ran("/s ({" + "1 ".repeat(190) + ") def 99 {{s token} stopped clear} repeat");
    b.due("refused", x.look(10), Bench.SYNTAX);
    b.due("one of 400 objects", Bench.more(x, "{" + "1 ".repeat(400) + "}"), 0);
    x = Bench.ran("/s ({{{{{" + "1 ".repeat(190) + ") def 99 {{s token} stopped clear} repeat");
    b.due("20 within one another", Bench.more(x, "{".repeat(20) + "}".repeat(20)), 0);
  }

  private static void stoppedRounds(Bench b) {
    PaintTongue x = Bench.ran("{1 1 1 matrix {stop} image} stopped pop 1 1 1 matrix {<00>} image");
    b.due("an image behind one that was stopped", x.look(10) * 10 + x.look(13), 1);
    x = Bench.ran("{1 1 1 matrix {stop} image} stopped pop {1 1 1 matrix {<00>} image} stopped 7");
    b.due("one in the same place", Bench.operands(x) + " " + x.look(10) + x.look(13), "2:0 0:7 01");
    x = Bench.ran(String.format(FONT, "exch pop 97 eq {stop} if 2 0 setcharwidth") + "{(a) show} stopped pop {(bc) show} stopped 7");
    b.due("signs in the same place", Bench.operands(x) + " " + x.look(10) + x.graphics(6) / 65536, "2:0 0:7 05");
    x = Bench.ran(String.format(FONT, "exch pop 97 eq {stop} if 2 0 setcharwidth") + "{(a) show} stopped pop (bc) show");
    b.due("signs behind one that was stopped", x.look(10) * 100 + x.graphics(6) / 65536, 5);
    x = Bench.ran(String.format(FONT, "exch pop 97 eq {stop} if 2 0 setcharwidth") + "{{} (ba) kshow} stopped clear {pop pop} (bc) kshow");
    b.due("kshow behind one that was stopped", x.look(10) * 100 + x.graphics(6) / 65536, 7);
    x = Bench.ran(String.format(FONT, "exch pop 97 eq {stop} if 2 0 setcharwidth") + "{(a) stringwidth} stopped pop (b) stringwidth");
    b.due("stringwidth behind one that was stopped", Bench.operands(x), "1:131072 1:0");
  }

  private static void leftRounds(Bench b) {
    b.gives("5 {exit} repeat 1 2 moveto 3 4 lineto {} {} {} {} pathforall", "1:65536 1:131072 1:196608 1:262144");
    b.gives("1 2 moveto 3 4 lineto {pop pop exit} {} {} {} pathforall {} {} {} {} pathforall", "1:65536 1:131072 1:196608 1:262144");
    b.gives("5 {exit} repeat 1 2 moveto 3 4 lineto {} {} {} {} pathforall 7", "1:65536 1:131072 1:196608 1:262144 0:7");
    b.gives("7 1 9 {pop exit} for 2 {5} repeat", "0:5 0:5");
    b.gives("7 1 9 {pop exit} for 2 {5} repeat 3 1 4 {} for 7", "0:5 0:5 0:3 0:4 0:7");
    b.gives("[1 2 3] {pop exit} forall [4 5] {} forall (ab) {} forall", "0:4 0:5 0:97 0:98");
    PaintTongue x = Bench.ran("8 1 1 matrix {<00>} image erasepage /k 0 def 16 1 1 matrix {k 0 eq {/k 1 def <00>} {<>} ifelse} image");
    b.due("an image behind another one", x.look(13), 8);
  }

  /** What was under way in the same place uses nothing any more. */
  private static void usedNoMore(Bench b) {
    b.errs("/p {restore} def /e {pop} def save [1] /e load forall restore save 1 /p load repeat 7", 0);
    b.errs("/p {restore 1} def save 1 {2 pop} repeat restore save p 7", 0);
    b.errs("/p {restore 1} def save (2 pop) cvx exec restore save p 7", 0);
    b.errs("/p {restore} def save 1 1 1 {pop} for restore save /p load stopped 7", 0);
    b.errs("/p {restore} def save [1] {pop} forall restore save /p load stopped 7", 0);
    b.errs("/p {restore exit} def save (a) {pop} forall restore save /p load loop 7", 0);
  }

  private static void stoppedNames(Bench b) {
    PaintTongue x = Bench.ran("/none cvx /stopped load exec");
    b.due("what exec took is gone", Bench.operands(x) + " " + x.look(10), "2:1 5");
    b.fails("/none cvx /exec load exec", Bench.UNDEFINED, "exec", "5:4x");
    b.fails("7 /none cvx exec", Bench.UNDEFINED, "exec", "0:7 5:4x");
  }

  private static String path(PaintTongue x) {
    StringBuilder all = new StringBuilder();
    for (int i = 0; x.part(i, 0) != PaintTongue.NONE; i++) {
      all.append(x.part(i, 0));
      for (int what = 1; x.part(i, what) != PaintTongue.NONE; what++) {
        all.append(',').append(x.part(i, what) / 65536);
      }
      all.append(' ');
    }
    return all.toString();
  }

  private static void paths(Bench b) {
    String drawn = "1 2 moveto 3 4 lineto 5 6 7 8 9 10 curveto closepath 11 12 lineto ";
    String other = "newpath 2 1 moveto closepath 4 3 moveto 6 5 8 7 10 9 curveto 12 11 lineto closepath ";
    String want = "0,1,2 1,3,4 2,5,6,7,8,9,10 3 0,1,2 1,11,12 ";
    for (String around : new String[] {"gsave | grestore", "gsave | grestoreall", "save | restore", "save | grestore"}) {
      String[] pair = around.split(" [|] ");
      PaintTongue x = Bench.ran(drawn + pair[0] + " " + other + pair[1]);
      b.due("path behind " + around, path(x), want);
      Bench.more(x, "closepath");
      b.due("its move behind " + around, x.graphics(6) * 10L + x.graphics(7), 655360 + 131072);
      x = Bench.ran(drawn + "newpath 5 6 moveto 7 7 lineto " + pair[0] + " newpath 2 1 moveto 9 9 lineto " + pair[1] + " closepath");
      b.due("the move of a part behind " + around, x.graphics(6) * 10L + x.graphics(7), 3276800 + 393216);
    }
    PaintTongue x = Bench.ran("9 9 moveto 4 {-1 -1 rlineto} repeat flattenpath");
    b.due("a flat path", path(x), "0,9,9 1,8,8 1,7,7 1,6,6 1,5,5 ");
    b.gives("9 1 moveto 9 2 lineto pathbbox 1 9 moveto 2 9 lineto newpath 1 9 moveto 2 9 lineto pathbbox",
        "1:589824 1:65536 1:589824 1:131072 1:65536 1:589824 1:131072 1:589824");
    b.gives("9 1 moveto 9 2 lineto 3 3 lineto pathbbox", "1:196608 1:65536 1:589824 1:196608");
  }

  /** Ends, join, miter limit, width, grey, dots: each by itself is kept. */
  private static void drawing(Bench b) {
    String line = "4 setlinewidth 2 6 moveto 9 6 lineto 5 12 lineto ";
    for (String first : new String[] {"0 setlinejoin", "1 setlinejoin", "2 setlinejoin", "0 setlinecap", "1 setlinecap", "2 setlinecap", "1 setmiterlimit",
        "20 setmiterlimit", "6 setlinewidth", ".5 setgray", "[15 14 13 12 11 10 9 8 7 6 5 4 3 2 1 0] setdots"}) {
      for (String second : new String[] {"0 setlinejoin", "1 setlinejoin", "2 setlinejoin", "0 setlinecap", "1 setlinecap", "2 setlinecap",
          "1 setmiterlimit", "20 setmiterlimit", "1 setlinewidth", ".8 setgray", "[3 2 1 0 7 6 5 4 11 10 9 8 15 14 13 12] setdots"}) {
        String grey = first.contains("dots") || second.contains("dots") ? ".5 setgray " : "";
        String plain = Bench.rows(Bench.ran(16, 16, grey + line + first + " stroke"), -1, 16);
        for (String around : new String[] {"gsave | grestore", "save | restore"}) {
          String[] pair = around.split(" [|] ");
          String text = grey + line + first + " " + pair[0] + " " + second + " " + pair[1] + " stroke";
          b.due(text, Bench.rows(Bench.ran(16, 16, text), -1, 16), plain);
        }
      }
    }
    b.gives("/F << /FontMatrix matrix /BuildChar {} >> def [1 0 0 1 5 6] setmatrix F 2 scalefont /FontMatrix get aload pop",
        "1:131072 1:0 1:0 1:131072 1:0 1:0");
  }

  private static void widths(Bench b) {
    String y = String.format(FONT, "exch pop 97 eq {0 1 setcharwidth} if");
    PaintTongue x = Bench.ran(y + "(ab) show");
    b.due("a sign's width is not the next one's", x.graphics(7) / 65536, 2);
    b.gives(y + "(aa) stringwidth (a) stringwidth (b) stringwidth", "1:0 1:131072 1:0 1:65536 1:0 1:0");
    String full = "299 {.01 0 rlineto} repeat ";
    b.errs(String.format(FONT, "pop pop 1 0 setcharwidth") + full + "(ab) stringwidth", 0);
    b.errs(String.format(FONT, "pop pop 1 0 setcharwidth") + full + "(a) show", Bench.LIMIT);
  }

  /** A sign or a stringwidth that was under way in a place is no matter of what is done while that place is free. */
  private static void signsThatWere(Bench b) {
    String stops = String.format(FONT, "stop");
    b.fails(stops + "{(a) show} stopped clear {1 0 setcharwidth 7} exec", Bench.UNDEFINED, "setcharwidth", "0:1 0:0");
    b.fails(stops + "{(a) show} stopped clear {{1 0 setcharwidth 7} exec 8} exec", Bench.UNDEFINED, "setcharwidth", "0:1 0:0");
    b.fails(stops + "{(a) show} stopped clear 1 0 setcharwidth 7", Bench.UNDEFINED, "setcharwidth", "0:1 0:0");
    String box = "newpath 0 0 moveto 4 0 lineto 4 4 lineto 0 4 lineto fill";
    for (String text : new String[] {box + " 7", "{" + box + " 7} exec 8", "{{" + box + " 7} exec 8} exec 9", box}) {
      for (String width : new String[] {"(a) stringwidth ", "{(a) stringwidth} stopped ", "{{(a) stringwidth 1} exec 2} exec "}) {
        PaintTongue x = Bench.ran(String.format(FONT, "pop pop") + width + text);
        b.due("painted behind " + width + text, x.look(13), 16);
        x = Bench.ran(stops + "{" + width + "} stopped " + text);
        b.due("painted behind a stopped " + width + text, x.look(13), 16);
      }
    }
  }

  /** What a save had kept is no matter of a gsave's that is in its place. */
  private static void keptThatWere(Bench b) {
    for (String text : new String[] {"gsave save restore ", "gsave save save pop restore ", "gsave save save save pop pop restore ",
        String.format(FONT, "pop pop") + "gsave (ab) show ", String.format(FONT, "pop pop") + "gsave (ab) stringwidth "}) {
      PaintTongue x = Bench.ran(text + ".5 setgray grestoreall");
      b.due(text + "and grestoreall", x.look(3) * 100000 + x.graphics(8), 0);
      x = Bench.ran(text + ".5 setgray gsave .25 setgray grestore");
      b.due(text + "and grestore", x.look(3) * 100000 + x.graphics(8), 132768);
      x = Bench.ran(text + ".5 setgray gsave gsave .25 setgray grestoreall");
      b.due(text + "and more", x.look(3) * 100000 + x.graphics(8), 0);
    }
  }

  /** Saves of an outer sign go with it where an inner one is stopped. */
  private static void nestedSigns(Bench b) {
    for (String inner : new String[] {"0 0 moveto (b) show", "(b) stringwidth", "0 0 moveto {} (b) kshow"}) {
      PaintTongue x = Bench.ran("save pop " + String.format(FONT, "exch pop 97 eq {save pop gsave " + inner + "} {save pop stop} ifelse") + "{(a) show} stopped");
      b.due("live behind " + inner, x.look(6), 1);
      b.due("kept behind " + inner, x.look(3), 1);
      b.due("operands behind " + inner, Bench.operands(x), "2:1");
    }
  }
}
