/** The boundary cases that the promises 1 to 15 name, both sides of each. */
public final class FaceEdgesTest {
  private static final int LEAST = Integer.MIN_VALUE, GREATEST = Integer.MAX_VALUE;
  private static final long NO_POINT = Long.MIN_VALUE, NO_SUCH = Long.MAX_VALUE, BY_THE_MACHINE = 1L << 40;
  private static final String BOX = "/box {newpath moveto 1 0 rlineto 0 1 rlineto -1 0 rlineto fill} def ";
  private static final String FONT = "/F << /FontMatrix matrix /BuildChar {pop pop %s} >> definefont setfont 1 2 moveto ";

  public static void main(String[] args) {
    Bench b = new Bench("FaceEdgesTest");
    sides(b);
    feeding(b);
    ending(b);
    starting(b);
    running(b);
    looking(b);
    namesMet(b);
    printedCount(b);
    blaming(b);
    tops(b);
    elements(b);
    outs(b);
    pixels(b);
    lines(b);
    graphics(b);
    parts(b);
    resetting(b);
    b.close();
  }

  /** Promise 1: 8 .. 96 both, others the nearest; all 0; nothing on the tape; no text. */
  private static void sides(Bench b) {
    int[] asked = {LEAST, -1, 0, 7, 8, 9, 31, 32, 33, 63, 64, 65, 95, 96, 97, GREATEST};
    int[] made = {8, 8, 8, 8, 8, 9, 31, 32, 33, 63, 64, 65, 95, 96, 96, 96};
    for (int i = 0; i < asked.length; i++) {
      int other = made.length - 1 - i;
      PaintTongue x = new PaintTongue(asked[i], asked[other]);
      String page = "page of " + asked[i] + " by " + asked[other];
      b.due(page + ": last column", x.pixel(-1, made[i] - 1, 0), 0);
      b.due(page + ": beyond it", x.pixel(-1, made[i], 0), -1);
      b.due(page + ": last line", x.pixel(-1, 0, made[other] - 1), 0);
      b.due(page + ": beyond it", x.pixel(-1, 0, made[other]), -1);
      b.due(page + ": its clip", x.look(14), made[i] * made[other]);
      b.due(page + ": its pixels", x.look(13), 0);
      b.due(page + ": no text", x.run(20000), 0);
      b.due(page + ": nothing under way", x.look(2), 0);
      b.due(page + ": nothing on the tape", x.end(1) ? 1 : 0, 0);
      b.due(page + ": an empty tape", x.start(), 0);
    }
  }

  /** Promise 2: twenty bytes, the highest first; NONE, doing nothing, when there would be more than 4,000. */
  private static void feeding(Bench b) {
    PaintTongue x = new PaintTongue(8, 8);
    b.due("bytes above 127", x.feed(0x28FF8001, 0x7F292070, 0x72696E74, 0x20202020, 0x20202020), 20);
    x.start();
    b.due("run of bytes above 127", x.run(9), 0);
    b.due("bytes above 127", Bench.printed(x), "\u00ff\u0080\u0001\u007f");
    for (int i = 1; i <= 199; i++) {
      b.due("feed " + i, x.feed(0x20202020, 0x20202020, 0x20202020, 0x20202020, 0x20202020), 20 * i);
    }
    b.due("the two hundredth", x.feed(0x37203D20, 0x20202020, 0x20202020, 0x20202020, 0x20202020), 4000);
    b.due("one more", x.feed(0x38203D20, 0x38203D20, 0x38203D20, 0x38203D20, 0x38203D20), -1);
    b.due("it did nothing", x.start(), 4000);
    x.run(9);
    b.due("nor to the bytes", Bench.printed(x).substring(4), "7\n");
    for (int left = 19; left <= 21; left++) {
      x = new PaintTongue(8, 8);
      for (int i = 1; i <= 200; i++) {
        x.feed(0, 0, 0, 0, 0);
      }
      x.end(4000 - left);
      b.due("with room for " + left, x.feed(1, 2, 3, 4, 5), left < 20 ? -1 : 4020 - left);
      b.due("bytes with room for " + left, x.start(), left < 20 ? 4000 - left : 4020 - left);
    }
  }

  /** Promise 3: the tape has its first n bytes alone; beyond its bounds: false, nothing changed. */
  private static void ending(Bench b) {
    PaintTongue x = new PaintTongue(8, 8);
    x.feed(0x31203220, 0x33203420, 0x35203620, 0x37203820, 0x39203020);
    for (int n : new int[] {LEAST, -1, 21, 4000, GREATEST}) {
      b.due("end of " + n, x.end(n) ? 1 : 0, 0);
    }
    b.due("as many as there are", x.end(20) ? 1 : 0, 1);
    b.due("fewer", x.end(4) ? 1 : 0, 1);
    b.due("one more than are left", x.end(5) ? 1 : 0, 0);
    b.due("what comes stands behind them", x.feed(0x37202020, 0x20202020, 0x20202020, 0x20202020, 0x20202020), 24);
    x.start();
    x.run(9);
    b.due("the first ones, then the new ones", Bench.operands(x), "0:1 0:2 0:7");
    x.feed(0x31203220, 0x33203420, 0x35203620, 0x37203820, 0x39203020);
    b.due("none", x.end(0) ? 1 : 0, 1);
    b.due("an empty tape", x.start(), 0);
    b.due("is through", x.run(9), 0);
  }

  /** Promise 4: all that was UNDER WAY goes, all else stays. */
  private static void starting(Bench b) {
    PaintTongue x = new PaintTongue(8, 8);
    Bench.tape(x, "{1 {2 dict begin gsave save 5 5 moveto {} loop} stopped} exec 9");
    x.start();
    x.run(100);
    b.due("a text, a procedure, a stopped, its procedure's loop", x.look(2), 3);
    String operands = Bench.operands(x);
    b.due("an empty tape", x.start(), 0);
    b.due("all that was under way is gone", x.look(2), 0);
    b.due("without its true", Bench.operands(x), operands);
    b.due("the dicts stay", x.look(1), 3);
    b.due("the graphics that are kept stay", x.look(3), 2);
    b.due("the saves stay", x.look(6), 1);
    b.due("the path stays", x.look(16), 1);
    b.due("the rest of the text is gone", x.run(20000), 0);
    b.due("nothing of it was done", Bench.operands(x), operands);
    x = Bench.ran("1 stop");
    b.due("failed", x.run(20000), 2);
    b.due("an empty tape after it", x.start(), 0);
    b.due("has not failed", x.run(0), 0);
    signs(b);
  }

  /** The graphics become as the first one of the signs that go had kept them. */
  private static void signs(Bench b) {
    PaintTongue x = new PaintTongue(8, 8);
    Bench.tape(x, ".25 setgray gsave " + String.format(FONT, ".5 setgray gsave (b) stringwidth") + "(a) show");
    x.start();
    for (int i = 0; i < 200 && x.look(3) < 5; i++) {
      x.run(1);
    }
    b.due("a gsave, a sign, a gsave, a stringwidth, its sign", x.look(3), 5);
    x.start();
    b.due("the gsave ahead of them stays", x.look(3), 1);
    b.due("grey ahead of them", x.graphics(8), 16384);
    b.due("point ahead of them", x.graphics(7), 2 * 65536);
  }

  /** Promise 5: 0 .. 20000 STEPS; costs are counted, and done also beyond n. */
  private static void running(Bench b) {
    PaintTongue x = new PaintTongue(8, 8);
    Bench.tape(x, "{} loop");
    x.start();
    for (int n : new int[] {LEAST, -1, 20001, GREATEST}) {
      b.due("run of " + n, x.run(n), -1);
      b.due("steps of run of " + n, x.look(11), 0);
      b.due("operands of run of " + n, x.look(0), 0);
    }
    b.due("run of 0", x.run(0), 1);
    b.due("its steps", x.look(11), 0);
    b.due("run of 1", x.run(1), 1);
    b.due("its step", x.look(11), 1);
    b.due("run of 20,000", x.run(20000), 1);
    b.due("its steps", x.look(11), 20001);
    x = Bench.ran("1 2 pop pop pop 3");
    b.due("a text that has failed", x.run(20000), 2);
    b.due("does no more", x.look(11), 5);
    b.due("refused after it", x.run(-1), -1);
    costs(b);
  }

  private static void costs(Bench b) {
    String path = "1 1 moveto 3 1 lineto 3 3 lineto ";
    String[] ops = {"fill", "eofill", "clip", "eoclip", "stroke"};
    for (int i = 0; i < ops.length; i++) {
      int cost = i == 4 ? 60 : 3;
      PaintTongue x = new PaintTongue(8, 8);
      Bench.tape(x, path + ops[i] + " 7 8 9");
      x.start();
      b.due(ops[i] + " as the last of n", x.run(10), 1);
      b.due(ops[i] + ": its cost is done beyond n", x.look(11), 10 + cost);
      x.run(1);
      b.due(ops[i] + ": the next run has its own steps", Bench.operands(x), "0:7");
      x = new PaintTongue(8, 8);
      Bench.tape(x, path + ops[i] + " 7 8 9");
      x.start();
      b.due(ops[i] + " with its cost within n", x.run(10 + cost), 1);
      b.due(ops[i] + ": no more than n", x.look(0), 0);
      x.run(1);
      b.due(ops[i] + ": the next one", x.look(0), 1);
      x = new PaintTongue(8, 8);
      Bench.tape(x, path + ops[i] + " 7 8 9");
      x.start();
      x.run(11 + cost);
      b.due(ops[i] + ": what is left of n", Bench.operands(x), "0:7");
    }
  }

  /** Promise 6: whats 0 to 16 alone; what each counts is reached by the other tests. */
  private static void looking(Bench b) {
    PaintTongue x = new PaintTongue(8, 8);
    for (int what : new int[] {LEAST, -1, 17, GREATEST}) {
      b.due("look " + what, x.look(what), -1);
    }
    b.due("the latest error before any", x.look(10), 0);
    Bench.more(x, "none");
    b.due("the latest error", x.look(10), Bench.UNDEFINED);
    Bench.more(x, "pop");
    b.due("a later one", x.look(10), Bench.UNDERFLOW);
    Bench.more(x, "1 2 add stop");
    b.due("it stays", x.look(10), Bench.UNDERFLOW);
    b.due("no current point", x.look(16), 0);
    Bench.more(x, "clear 1 1 moveto closepath");
    b.due("a current point behind a close", x.look(16), 1);
    b.due("a close is no point", x.look(12), 1);
    Bench.more(x, "2 2 3 3 4 4 curveto");
    b.due("a move and a curve more", x.look(12), 5);
    Bench.more(x, "newpath");
    b.due("no point", x.look(12) + x.look(16), 0);
  }

  /** NAMES met in tokens, by cvn, or as STRINGS for KEYS; a 1,001st: LIMIT; what is there from the first on isn't counted. */
  private static void namesMet(Bench b) {
    PaintTongue x = Bench.ran("/add /pop [ pop /true /false /null /integertype /realtype /booleantype /nulltype /marktype "
        + "/nametype /operatortype /savetype /stringtype /arraytype /dicttype /FontMatrix /BuildChar /Encoding "
        + "(stringwidth) cvn (show) where (=) load true 5 type (==) cvn");
    b.due("error of known names", x.look(10), 0);
    b.due("they are not counted", x.look(7), 0);
    Bench.more(x, "clear /a /a {b /a c} (d) cvn (d) cvn (e) 1 def 1 dict (f) known (g) where /Add");
    b.due("those that are new", x.look(7), 8);
    Bench.more(x, "unknown");
    b.due("a name without a value too", x.look(7), 9);
    Bench.more(x, "1 dict (sought) get");
    b.due("one as a key that isn't there", x.look(7) * 10 + x.look(10), 100 + Bench.UNDEFINED);
    x = Bench.ran("0 1 998 {4 string cvs cvn pop} for");
    b.due("999 names", x.look(7), 999);
    b.due("one more", Bench.more(x, "/last"), 0);
    b.due("1,000 names", x.look(7), 1000);
    String[] meets = {"/new", "new", "//new", "{new}", "(new) cvn", "(new) load", "(new) 1 def", "(new) 1 store", "(new) where",
        "currentdict (new) known", "currentdict (new) undef", "currentdict (new) get", "currentdict (new) 1 put", "<< (new) 1 >>",
        "(new) findfont", "(new) 1 dict definefont", "(/new) token", "(new) cvx exec"};
    for (String text : meets) {
      b.due("a 1,001st by " + text, Bench.more(x, text), 2);
      b.due("its error by " + text, x.look(10), Bench.LIMIT);
      b.due("none more by " + text, x.look(7), 1000);
      Bench.more(x, "clear");
    }
    b.due("one that is there", Bench.more(x, "/last (998) cvn (0) 1 def"), 0);
  }

  /** All bytes PRINTED are counted, up to 2147483647. */
  private static void printedCount(Bench b) {
    PaintTongue x = new PaintTongue(8, 8);
    Bench.tape(x, "/s 500 string def /r 190 array def 0 1 189 {r exch s put} for {r aload pop " + "print ".repeat(190) + "} loop");
    x.start();
    b.due("run", x.run(20000), 1);
    long least = x.look(8);
    boolean grows = true;
    for (int i = 0; i < 300 && x.look(8) < GREATEST; i++) {
      x.run(20000);
      grows = grows && x.look(8) > least;
      least = x.look(8);
    }
    b.due("the count grows", grows ? 1 : 0, 1);
    b.due("up to the greatest", x.look(8), GREATEST);
    x.run(20000);
    b.due("and stays there", x.look(8), GREATEST);
    Bench.more(x, "clear (a) print 5 =");
    b.due("whatever comes", x.look(8), GREATEST);
    b.due("the last byte that is kept", x.out(3999), 0);
    b.due("no more are kept", x.out(4000) + x.out(GREATEST), -2);
  }

  /** Promise 7: byte i of the name; NONE without. */
  private static void blaming(Bench b) {
    String name = "abcdefghijklmnopqrstuvwxyz+-*!";
    PaintTongue x = Bench.ran(name);
    b.due("a name of 30 bytes", Bench.blamed(x), name);
    b.due("its last byte", x.blamed(29), '!');
    for (int i : new int[] {LEAST, -1, 30, GREATEST}) {
      b.due("blamed " + i, x.blamed(i), -1);
    }
    Bench.more(x, "(a");
    b.due("a token blames nothing", x.blamed(0), -1);
    Bench.more(x, "]");
    b.due("an operator of one byte", Bench.blamed(x), "]");
    Bench.more(x, "200 {0} repeat 1");
    b.due("no operand for a number", x.look(10), Bench.OVERFLOW);
    b.due("which has no name", x.blamed(0), -1);
    b.due("before any error", new PaintTongue(8, 8).blamed(0), -1);
  }

  /** Promise 8: the k-th OPERAND, whats 0 to 2. */
  private static void tops(Bench b) {
    PaintTongue x = Bench.ran("7 198 {0} repeat -8");
    b.due("the uppermost one", x.top(0, 1), -8);
    b.due("the lowest one", x.top(199, 1), 7);
    for (int k : new int[] {LEAST, -1, 200, GREATEST}) {
      b.due("no operand " + k, x.top(k, 0), -1);
    }
    for (int what : new int[] {LEAST, -1, 3, GREATEST}) {
      b.due("what " + what, x.top(0, what), -1);
    }
    b.due("none at all", new PaintTongue(8, 8).top(0, 0), -1);
    b.gives("2147483647 -2147483648 32767.99999999 -32768.0", "0:2147483647 0:-2147483648 1:2147483647 1:-2147483648");
    b.gives("true false null mark /abc /abc cvx /add load save", "2:1 2:0 3:0 4:0 5:3 5:3x 6:0x 7:0");
    b.gives("() 500 string [] 1000 array 0 dict << 1 2 >> {}", "8:0 8:500 9:0 9:1000 10:0 10:1 9:0x");
  }

  /** Promise 9: element i of a ROW, byte i of a STRING (what 1) or NAME. */
  private static void elements(Bench b) {
    PaintTongue x = Bench.ran("1000 array dup 999 /last put (abcd) 1 2 getinterval [1 2 3 4] 1 2 getinterval () [] /name /x cvx 5");
    b.due("element of an integer", x.element(0, 0, 1), -1);
    b.due("byte of a name of one", x.element(1, 0, 1), 'x');
    b.due("beyond it", x.element(1, 1, 1), -1);
    b.due("the last byte of a name", x.element(2, 3, 1), 'e');
    b.due("beyond it", x.element(2, 4, 1), -1);
    b.due("an empty row", x.element(3, 0, 0), -1);
    b.due("an empty string", x.element(4, 0, 1), -1);
    b.due("the first of a part", x.element(5, 0, 1), 2);
    b.due("the last of a part", x.element(5, 1, 1), 3);
    b.due("beyond the part, not the body", x.element(5, 2, 1), -1);
    b.due("ahead of the part, not the body", x.element(5, -1, 1), -1);
    b.due("the last byte of a part", x.element(6, 1, 1), 'c');
    b.due("beyond the part", x.element(6, 2, 1), -1);
    b.due("ahead of the part", x.element(6, -1, 1), -1);
    b.due("the last of a thousand", x.element(7, 999, 0), 5);
    b.due("its value", x.element(7, 999, 1), 4);
    b.due("the last but one", x.element(7, 998, 0), 3);
    b.due("beyond a thousand", x.element(7, 1000, 0), -1);
    for (int n : new int[] {LEAST, -1, 8, GREATEST}) {
      b.due("no operand " + n, x.element(n, 0, 0), -1);
      b.due("no element " + (n == 8 ? 2 : n), x.element(5, n == 8 ? 2 : n, 0), -1);
      b.due("no byte " + (n == 8 ? 4 : n), x.element(2, n == 8 ? 4 : n, 1), -1);
    }
    for (int what : new int[] {LEAST, -1, 3, GREATEST}) {
      b.due("what " + what + " of a row", x.element(7, 0, what), -1);
      b.due("what " + what + " of a string", x.element(6, 0, what), -1);
      b.due("what " + what + " of a name", x.element(2, 0, what), -1);
    }
    b.due("an executable element", Bench.ran("{a /a}").element(0, 0, 2) * 10 + Bench.ran("{a /a}").element(0, 1, 2), 10);
  }

  /** Promise 10: byte i of what was PRINTED; the first 4,000 are kept. */
  private static void outs(Bench b) {
    PaintTongue x = new PaintTongue(8, 8);
    b.due("before any", x.out(0), -1);
    Bench.more(x, "9 {400 string print} repeat 399 string print (y) print");
    b.due("4,000 bytes", x.look(8), 4000);
    b.due("the last one", x.out(3999), 'y');
    for (int i : new int[] {LEAST, -1, 4000, GREATEST}) {
      b.due("out " + i, x.out(i), -1);
    }
    Bench.more(x, "(z) print");
    b.due("4,001 bytes", x.look(8), 4001);
    b.due("the first ones stay", x.out(3999), 'y');
    b.due("one more is not kept", x.out(4000), -1);
    x = Bench.ran("9 {400 string print} repeat 398 string print (xyz) print");
    b.due("a string of which two are kept", x.out(3998) * 1000 + x.out(3999), 'x' * 1000 + 'y');
    b.due("all three are counted", x.look(8), 4001);
    b.due("the third is not kept", x.out(4000), -1);
  }

  /** Promise 11: the kept pages and the present one. */
  private static void pixels(Bench b) {
    PaintTongue x = Bench.ran(9, 10, BOX + "8 9 box 0 0 box");
    b.due("the highest at the right", x.pixel(-1, 8, 9), 1);
    b.due("one that is 0", x.pixel(-1, 7, 9), 0);
    for (int n : new int[] {LEAST, -1, GREATEST}) {
      b.due("x " + n, x.pixel(-1, n, 0), -1);
      b.due("y " + n, x.pixel(-1, 0, n), -1);
    }
    b.due("x of 9", x.pixel(-1, 9, 0), -1);
    b.due("y of 10", x.pixel(-1, 0, 10), -1);
    for (int out = 0; out <= 5; out++) {
      for (int k : new int[] {LEAST, -2, 0, 1, 2, 3, 4, 5, GREATEST}) {
        b.due("page " + k + " of " + out, x.pixel(k, 8, 9), k >= 0 && k < out && k < 4 ? 1 : -1);
      }
      b.due("pages out", x.look(9), out);
      Bench.more(x, "showpage 8 9 box");
    }
  }

  /** Promise 12: 32 pixels from x on, 0 for what is beyond the page; what is refused throws. */
  private static void lines(Bench b) {
    for (int width : new int[] {8, 31, 32, 33, 64, 65, 95, 96}) {
      PaintTongue x = Bench.ran(width, 8, BOX + "0 1 box " + (width - 1) + " 1 box " + width / 2 + " 1 box "
          + width / 3 + " 1 box showpage " + (width - 2) + " 7 box");
      for (int from = 0; from <= 130; from++) {
        b.due(width + " wide, page 0 from " + from, line(x, 0, from, 1), pixelsFrom(x, 0, from, 1));
        b.due(width + " wide, page -1 from " + from, line(x, -1, from, 7), pixelsFrom(x, -1, from, 7));
      }
      b.due("far beyond", line(x, 0, GREATEST, 1), 0);
    }
    for (int width : new int[] {64, 95, 96}) {
      PaintTongue full = Bench.ran(width, 96, "-9 -9 moveto 200 -9 lineto 200 200 lineto -9 200 lineto fill");
      for (int y : new int[] {0, 1, 95}) {
        for (int from = 0; from <= 130; from++) {
          b.due("all of " + width + " from " + from, line(full, -1, from, y), pixelsFrom(full, -1, from, y));
        }
      }
    }
    PaintTongue x = Bench.ran(8, 9, "showpage showpage");
    for (int n : new int[] {LEAST, -1}) {
      b.due("x " + n, line(x, -1, n, 0), NO_SUCH);
    }
    for (int n : new int[] {LEAST, -1, 9, GREATEST}) {
      b.due("line " + n, line(x, -1, 0, n), NO_SUCH);
    }
    for (int n : new int[] {LEAST, -2, 2, 3, 4, GREATEST}) {
      b.due("page " + n, line(x, n, 0, 0), NO_SUCH);
    }
    // One of the three is enough, wherever the others are.
    for (int n : new int[] {0, 1, 8, 31, 32, 64, 95, 96, 128, GREATEST}) {
      b.due("a line below the page from " + n, line(x, -1, n, -1), NO_SUCH);
      b.due("a line above the page from " + n, line(x, -1, n, 9), NO_SUCH);
      b.due("no such page from " + n, line(x, 2, n, 0), NO_SUCH);
      b.due("x below 0 in line " + n, line(x, -1, -1, Math.min(8, n)), NO_SUCH);
      b.due("x far below 0 in line " + n, line(x, -1, -33, Math.min(8, n)), NO_SUCH);
    }
    b.due("the last line of the last page", line(x, 1, 0, 8), 0);
  }

  private static long pixelsFrom(PaintTongue x, int k, int from, int y) {
    int bits = 0;
    for (int i = 0; i < 32; i++) {
      bits = bits << 1 | Math.max(0, x.pixel(k, from + i, y));
    }
    return bits;
  }

  private static long line(PaintTongue x, int k, int from, int y) {
    try {
      return x.line(k, from, y);
    } catch (IndexOutOfBoundsException e) {
      return e.getClass() == IndexOutOfBoundsException.class ? NO_SUCH : BY_THE_MACHINE;
    }
  }

  /** Promise 13: 0 .. 10; 6 and 7 without a current point, another what. */
  private static void graphics(Bench b) {
    PaintTongue x = new PaintTongue(8, 8);
    for (int what : new int[] {LEAST, -1, 11, GREATEST}) {
      b.due("graphics " + what, graphicsOf(x, what), NO_SUCH);
    }
    long[] first = {65536, 0, 0, 65536, 0, 0, NO_POINT, NO_POINT, 0, 65536, 655360};
    for (int what = 0; what <= 10; what++) {
      b.due("graphics " + what + " at first", graphicsOf(x, what), first[what]);
    }
    Bench.more(x, "1 2 moveto 3 4 lineto");
    b.due("the last place", graphicsOf(x, 6) * 100 + graphicsOf(x, 7), 3 * 6553600 + 4 * 65536);
    Bench.more(x, "closepath 5 5 scale");
    b.due("behind a close its move, a place of the page", graphicsOf(x, 6) * 100 + graphicsOf(x, 7), 6553600 + 2 * 65536);
    Bench.more(x, "fill");
    b.due("no path", graphicsOf(x, 6), NO_POINT);
    b.due("nor a y", graphicsOf(x, 7), NO_POINT);
  }

  private static long graphicsOf(PaintTongue x, int what) {
    try {
      return x.graphics(what);
    } catch (IllegalStateException e) {
      return e.getClass() == IllegalStateException.class ? NO_POINT : BY_THE_MACHINE;
    } catch (IllegalArgumentException e) {
      return e.getClass() == IllegalArgumentException.class ? NO_SUCH : BY_THE_MACHINE;
    }
  }

  /** Promise 14: parts and their places; what is not there is NONE. */
  private static void parts(Bench b) {
    PaintTongue x = new PaintTongue(8, 8);
    b.due("no path", x.part(0, 0), -1);
    Bench.more(x, "1 2 moveto 3 4 5 6 7 8 curveto closepath 9 10 11 12 13 14 curveto 15 16 lineto");
    int[][] due = {{0, 1, 2}, {2, 3, 4, 5, 6, 7, 8}, {3}, {0, 1, 2}, {2, 9, 10, 11, 12, 13, 14}, {1, 15, 16}};
    for (int i = 0; i < due.length; i++) {
      for (int what : new int[] {LEAST, -1, 0, 1, 2, 3, 4, 5, 6, 7, 8, GREATEST}) {
        boolean there = what >= 0 && what < due[i].length;
        b.due("part " + i + ", what " + what, x.part(i, what), !there ? -1 : what == 0 ? due[i][0] : due[i][what] * 65536);
      }
    }
    for (int i : new int[] {LEAST, -1, 6, GREATEST}) {
      b.due("no part " + i, x.part(i, 0), -1);
      b.due("nor a place of " + i, x.part(i, 1), -1);
    }
    x = Bench.ran("0 1 299 {0 moveto closepath} for");
    b.due("300 moves with their closes", x.look(10) * 1000 + x.look(12), 300);
    b.due("the last move", x.part(598, 0) * 1000 + x.part(598, 1) / 65536, 299);
    b.due("the last close", x.part(599, 0), 3);
    b.due("no more parts", x.part(600, 0), -1);
    Bench.more(x, "closepath");
    b.due("a close more is nothing", x.look(10) + x.part(600, 0), -1);
  }

  /** Promise 15: all is as at first, but the tape. */
  private static void resetting(Bench b) {
    PaintTongue x = new PaintTongue(8, 8);
    Bench.tape(x, "3 {save} repeat 3 dict begin /a 1 def " + BOX + "0 0 box showpage 1 1 box 2 setlinecap 1 setlinejoin "
        + String.format(FONT, "[0 0 0 0 0 0] setmatrix {} loop") + "{(a) stringwidth} stopped");
    x.start();
    x.run(1000);
    b.due("in a sign", x.look(3), 5);
    Bench.tape(x, "(a) 1 2");
    x.reset();
    PaintTongue fresh = new PaintTongue(8, 8);
    for (int what = 0; what <= 16; what++) {
      b.due("look " + what, x.look(what), fresh.look(what));
    }
    for (int what = 0; what <= 10; what++) {
      b.due("graphics " + what, graphicsOf(x, what), graphicsOf(fresh, what));
    }
    b.due("no page is out", x.pixel(0, 0, 0), -1);
    b.due("the page", Bench.rows(x, -1, 8), Bench.rows(fresh, -1, 8));
    b.due("no text", x.run(20000), 0);
    b.due("nothing printed", x.out(0), -1);
    b.due("the tape stays", x.feed(0x20202020, 0x20202020, 0x20202020, 0x20202020, 0x20202020), 27);
    b.due("its bytes", x.start(), 27);
    b.due("they run", x.run(20000), 0);
    b.due("as on a new object", Bench.operands(x) + ", room " + x.look(4), "8:1 0:1 0:2, room 2");
    for (String text : new String[] {"currentfont", "/F findfont", "a", "box", "end", "currentpoint"}) {
      Bench.more(x, "clear " + text);
      Bench.more(fresh, "clear " + text);
      b.due("error of " + text, x.look(10), fresh.look(10));
    }
    String stroke = "3 setlinewidth 2 2 moveto 5 2 lineto 5 5 lineto stroke";
    Bench.more(x, stroke);
    Bench.more(fresh, stroke);
    b.due("ends and joins are as at first", Bench.rows(x, -1, 8), Bench.rows(fresh, -1, 8));
    x = new PaintTongue(8, 8);
    x.reset();
    b.due("a reset of a new one", x.look(1), 2);
  }
}
