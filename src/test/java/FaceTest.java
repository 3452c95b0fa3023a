/** The face: what each promise answers by itself, at its edges and for wrong inputs. */
public final class FaceTest {
  public static void main(String[] args) {
    Bench b = new Bench("FaceTest");
    sizes(b);
    tape(b);
    start(b);
    run(b);
    looks(b);
    blames(b);
    operands(b);
    printing(b);
    pages(b);
    graphics(b);
    parts(b);
    reset(b);
    b.close();
  }

  private static void sizes(Bench b) {
    PaintTongue x = new PaintTongue(3, 500);
    b.due("NONE", PaintTongue.NONE, -1);
    b.due("pixel of a least width", x.pixel(-1, 7, 0), 0);
    b.due("pixel beyond a least width", x.pixel(-1, 8, 0), -1);
    b.due("pixel of a greatest height", x.pixel(-1, 0, 95), 0);
    b.due("pixel beyond a greatest height", x.pixel(-1, 0, 96), -1);
    b.due("clip of 8 by 96", x.look(14), 8 * 96);
    b.due("clip of 33 by 8", new PaintTongue(33, -5).look(14), 33 * 8);
    b.due("clip of 96 by 64", new PaintTongue(Integer.MAX_VALUE, 64).look(14), 96 * 64);
    b.due("no text", x.run(20000), 0);
    b.due("nothing on the tape", x.start(), 0);
    for (int what = 0; what <= 16; what++) {
      b.due("look " + what + " at first", x.look(what), what == 1 ? 2 : what == 14 ? 768 : 0);
    }
  }

  private static void tape(Bench b) {
    PaintTongue x = new PaintTongue(8, 8);
    b.due("end of an empty tape", x.end(0) ? 1 : 0, 1);
    b.due("end beyond", x.end(1) ? 1 : 0, 0);
    b.due("first feed", x.feed(0x31323334, 0x20202020, 0x20202020, 0x20202020, 0x2020203d), 20);
    b.due("end below", x.end(-1) ? 1 : 0, 0);
    b.due("end beyond twenty", x.end(21) ? 1 : 0, 0);
    b.due("end of twenty", x.end(20) ? 1 : 0, 1);
    b.due("start", x.start(), 20);
    b.due("run", x.run(5), 0);
    b.due("the highest byte comes first", Bench.printed(x), "1234\n");
    for (int i = 1; i <= 199; i++) {
      b.due("feed " + i, x.feed(0, 0, 0, 0, 0), 20 * i);
    }
    b.due("cut", x.end(3979) ? 1 : 0, 1);
    b.due("3,999 bytes", x.feed(0, 0, 0, 0, 0), 3999);
    b.due("too many bytes", x.feed(0, 0, 0, 0, 0), -1);
    b.due("cut again", x.end(3980) ? 1 : 0, 1);
    b.due("4,000 bytes", x.feed(0, 0, 0, 0, 0), 4000);
    b.due("one feed too many", x.feed(0, 0, 0, 0, 0), -1);
    b.due("all of them are the text", x.start(), 4000);
    b.due("the tape is empty then", x.start(), 0);
  }

  private static void start(Bench b) {
    PaintTongue x = Bench.ran("1 2 /a 3 def {4} loop");
    b.due("no end, but for the operands", x.look(10), 2);
    x = new PaintTongue(8, 8);
    Bench.tape(x, "/a 3 def 5 { 1 pop } loop");
    x.start();
    b.due("more steps", x.run(31), 1);
    b.due("under way", x.look(2), 2);
    b.due("operands stay", Bench.more(x, "a add"), 0);
    b.due("sum", Bench.operands(x), "0:8");
    b.due("a text of blanks goes at once", Bench.more(x, "  \n % a remark "), 0);
    b.due("nothing under way", x.look(2), 0);
    x = Bench.ran("bad");
    b.due("it has failed", x.run(0), 2);
    Bench.tape(x, "1");
    x.start();
    b.due("a new text has not failed", x.run(0), 1);
    b.due("the error stays", x.look(10), 5);
    signsGo(b);
  }

  /** A start in a sign gives the graphics back, without an operand. */
  private static void signsGo(Bench b) {
    PaintTongue x = new PaintTongue(16, 16);
    Bench.tape(x, "/F << /FontMatrix matrix /BuildChar {gsave save .5 setgray {} loop} >> definefont setfont "
        + ".25 setgray 3 4 moveto (a) show");
    x.start();
    x.run(200);
    b.due("kept in the sign", x.look(3), 3);
    b.due("live in the sign", x.look(6), 1);
    int operands = x.look(0);
    b.due("start", x.start(), 0);
    b.due("kept after it", x.look(3), 0);
    b.due("live after it", x.look(6), 0);
    b.due("grey after it", x.graphics(8), 16384);
    b.due("point after it", x.graphics(6), 3 * 65536);
    b.due("operands after it", x.look(0), operands);
    b.due("not failed", x.run(0), 0);
  }

  private static void run(Bench b) {
    PaintTongue x = new PaintTongue(8, 8);
    Bench.tape(x, "1 2 3");
    x.start();
    b.due("run below 0", x.run(-1), -1);
    b.due("run beyond its bound", x.run(20001), -1);
    b.due("nothing was done", x.look(11), 0);
    b.due("run of 0", x.run(0), 1);
    b.due("run of 2", x.run(2), 1);
    b.due("two operands", x.look(0), 2);
    b.due("the last step", x.run(1), 0);
    b.due("steps are counted", x.look(11), 3);
    b.due("no more", x.run(20000), 0);
    Bench.tape(x, "1 1 moveto 5 1 lineto 5 5 lineto fill 7 8");
    x.start();
    b.due("the cost goes beyond n", x.run(10), 1);
    b.due("steps with their costs", x.look(11), 3 + 10 + 3);
    b.due("nothing is owed", x.run(1), 1);
    b.due("operand behind fill", x.top(0, 1), 7);
  }

  private static void looks(Bench b) {
    PaintTongue x = Bench.ran("1 dict begin gsave save (abc) /new (other) cvn 1 1 moveto 2 2 lineto (hi) print showpage "
        + "3 3 moveto 4 4 5 5 6 6 curveto");
    int[] due = {4, 3, 0, 2, 4 + 2 + 3 + 2, 4, 1, 2, 2, 1, 0, 0, 4, 0, 256, 0, 1};
    for (int what = 0; what <= 16; what++) {
      if (what != 11) {
        b.due("look " + what, x.look(what), due[what]);
      }
    }
    b.due("look below", x.look(-1), -1);
    b.due("look beyond", x.look(17), -1);
    Bench.more(x, "end 0 0 moveto 3 0 lineto 3 3 lineto 0 3 lineto gsave fill grestore clip "
        + "/F << /FontMatrix matrix /BuildChar {} >> definefont pop");
    b.due("pixels that are 1", x.look(13), 9);
    b.due("pixels in the clip", x.look(14), 9);
    b.due("fonts", x.look(15), 1);
  }

  private static void blames(Bench b) {
    PaintTongue x = new PaintTongue(8, 8);
    b.due("blamed before any", x.blamed(0), -1);
    Bench.more(x, "nobody");
    b.due("blamed name", Bench.blamed(x), "nobody");
    b.due("blamed below", x.blamed(-1), -1);
    b.due("blamed beyond", x.blamed(6), -1);
    Bench.more(x, ")");
    b.due("a token is nothing to blame", x.blamed(0), -1);
    b.due("its error", x.look(10), 16);
    Bench.more(x, "/plus /add load def {plus} stopped");
    b.due("an operator by its own name", Bench.blamed(x), "add");
    Bench.more(x, "stop");
    b.due("stop keeps no error", Bench.blamed(x), "add");
  }

  private static void operands(Bench b) {
    PaintTongue x = Bench.ran("-7 -1.5 true null mark /name /add load save (str) [1 2.5 (x)] cvx << 1 2 3 4 >>");
    int[] kinds = {10, 9, 8, 7, 6, 5, 4, 3, 2, 1, 0};
    int[] values = {2, 3, 3, 0, 0, 4, 0, 0, 1, -98304, -7};
    for (int k = 0; k <= 10; k++) {
      b.due("kind of " + k, x.top(k, 0), kinds[k]);
      b.due("value of " + k, x.top(k, 1), values[k]);
      b.due("executable " + k, x.top(k, 2), k == 1 || k == 4 ? 1 : 0);
      b.due("nothing else of " + k, x.top(k, 3), -1);
    }
    b.due("no such operand", x.top(11, 0), -1);
    b.due("below the top", x.top(-1, 0), -1);
    b.due("element's kind", x.element(1, 1, 0), 1);
    b.due("element's value", x.element(1, 1, 1), 163840);
    b.due("element executable", x.element(1, 2, 2), 0);
    b.due("element beyond", x.element(1, 3, 0), -1);
    b.due("element below", x.element(1, -1, 0), -1);
    b.due("element's fourth", x.element(1, 0, 3), -1);
    b.due("byte of a string", x.element(2, 1, 1), 't');
    b.due("kind of a string's byte", x.element(2, 1, 0), -1);
    b.due("byte beyond a string", x.element(2, 3, 1), -1);
    b.due("byte of a name", x.element(5, 0, 1), 'n');
    b.due("byte beyond a name", x.element(5, 4, 1), -1);
    b.due("element of a dict", x.element(0, 0, 1), -1);
    b.due("element of an integer", x.element(10, 0, 1), -1);
    b.due("element of no operand", x.element(11, 0, 1), -1);
  }

  private static void printing(Bench b) {
    PaintTongue x = Bench.ran("(a\\377) print");
    b.due("printed byte", x.out(0), 'a');
    b.due("printed high byte", x.out(1), 255);
    b.due("beyond what was printed", x.out(2), -1);
    b.due("below what was printed", x.out(-1), -1);
    Bench.more(x, "41 {(0123456789012345678901234567890123456789012345678901234567890123456789012345678901234567890123456789)"
        + " print} repeat");
    b.due("all bytes are counted", x.look(8), 4102);
    b.due("the last one that is kept", x.out(3999), '7');
    b.due("one that is not kept", x.out(4000), -1);
  }

  private static void pages(Bench b) {
    PaintTongue x = Bench.ran(40, 8, "/box {newpath moveto 1 0 rlineto 0 1 rlineto -1 0 rlineto fill} def "
        + "0 0 box 33 2 box 39 7 box");
    b.due("pixel 0", x.pixel(-1, 0, 0), 1);
    b.due("pixel 33", x.pixel(-1, 33, 2), 1);
    b.due("no pixel", x.pixel(-1, 32, 2), 0);
    b.due("x below", x.pixel(-1, -1, 0), -1);
    b.due("x beyond", x.pixel(-1, 40, 0), -1);
    b.due("y below", x.pixel(-1, 0, -1), -1);
    b.due("y beyond", x.pixel(-1, 0, 8), -1);
    b.due("no page 0", x.pixel(0, 0, 0), -1);
    b.due("no page -2", x.pixel(-2, 0, 0), -1);
    b.due("line", line(x, -1, 0, 0), 0x80000000);
    b.due("line from 2 on", line(x, -1, 2, 2), 1);
    b.due("line from 33 on", line(x, -1, 33, 2), 0x80000000);
    b.due("line beyond the page", line(x, -1, 39, 7), 0x80000000);
    b.due("line behind the page", line(x, -1, 64, 0), 0);
    b.due("line far behind the page", line(x, -1, Integer.MAX_VALUE, 0), 0);
    b.due("line of x below 0", line(x, -1, -1, 0), Long.MIN_VALUE);
    b.due("line of y below 0", line(x, -1, 0, -1), Long.MIN_VALUE);
    b.due("line of y beyond", line(x, -1, 0, 8), Long.MIN_VALUE);
    b.due("line of no page", line(x, 0, 0, 0), Long.MIN_VALUE);
    Bench.more(x, "showpage 1 0 box showpage 2 0 box showpage 3 0 box showpage 4 0 box showpage 5 0 box");
    b.due("all pages are counted", x.look(9), 5);
    b.due("the first one", line(x, 0, 0, 0), 0x80000000);
    b.due("the fourth one", line(x, 3, 0, 0), 0x10000000);
    b.due("a fifth one is not kept", line(x, 4, 0, 0), Long.MIN_VALUE);
    b.due("nor its pixels", x.pixel(4, 4, 0), -1);
    b.due("the present one", line(x, -1, 0, 0), 0x04000000);
  }

  private static long line(PaintTongue x, int k, int from, int y) {
    try {
      return x.line(k, from, y);
    } catch (IndexOutOfBoundsException e) {
      return Long.MIN_VALUE;
    }
  }

  private static void graphics(Bench b) {
    PaintTongue x = Bench.ran("[1 2 3 4 5 6] setmatrix .5 setgray 2.5 setlinewidth 3 setmiterlimit");
    int[] due = {65536, 131072, 196608, 262144, 327680, 393216, 0, 0, 32768, 163840, 196608};
    for (int what = 0; what <= 10; what++) {
      b.due("graphics " + what, graphics(x, what), what == 6 || what == 7 ? Long.MIN_VALUE : due[what]);
    }
    b.due("graphics below", graphics(x, -1), Long.MAX_VALUE);
    b.due("graphics beyond", graphics(x, 11), Long.MAX_VALUE);
    Bench.more(x, "initmatrix 3 -4 moveto");
    b.due("current x", graphics(x, 6), 196608);
    b.due("current y", graphics(x, 7), -262144);
  }

  private static long graphics(PaintTongue x, int what) {
    try {
      return x.graphics(what);
    } catch (IllegalStateException e) {
      return Long.MIN_VALUE;
    } catch (IllegalArgumentException e) {
      return Long.MAX_VALUE;
    }
  }

  private static void parts(Bench b) {
    PaintTongue x = Bench.ran("1 2 moveto 3 4 lineto 5 6 7 8 9 10 curveto closepath");
    int[][] due = {{0, 1, 2}, {1, 3, 4}, {2, 5, 6, 7, 8, 9, 10}, {3}};
    for (int i = 0; i < due.length; i++) {
      for (int what = 0; what <= 8; what++) {
        int want = what >= due[i].length ? -1 : what == 0 ? due[i][0] : due[i][what] * 65536;
        b.due("part " + i + ", " + what, x.part(i, what), want);
      }
      b.due("part " + i + " below", x.part(i, -1), -1);
    }
    b.due("no part 4", x.part(4, 0), -1);
    b.due("no part -1", x.part(-1, 0), -1);
  }

  private static void reset(Bench b) {
    PaintTongue x = Bench.ran("/a 1 def 1 dict begin save gsave .5 setgray [15 14 13 12 11 10 9 8 7 6 5 4 3 2 1 0] setdots "
        + "(x) print 1 1 moveto 9 1 lineto 9 9 lineto fill showpage 1 1 moveto 9 1 lineto 9 9 lineto clip "
        + "/F << /FontMatrix matrix /BuildChar {} >> definefont setfont nobody");
    Bench.tape(x, "a");
    x.reset();
    PaintTongue fresh = new PaintTongue(16, 16);
    for (int what = 0; what <= 16; what++) {
      b.due("look after reset " + what, x.look(what), fresh.look(what));
    }
    for (int what = 0; what <= 10; what++) {
      b.due("graphics after reset " + what, graphics(x, what), graphics(fresh, what));
    }
    b.due("blamed after reset", x.blamed(0), -1);
    b.due("printed after reset", x.out(0), -1);
    b.due("page after reset", x.pixel(0, 0, 0), -1);
    b.due("not failed after reset", x.run(0), 0);
    b.due("the tape stays", x.start(), 1);
    b.due("what was defined is gone", x.run(9), 2);
    b.due("undefined", x.look(10), 5);
    Bench.more(x, ".5 setgray 0 0 moveto 4 0 lineto 4 4 lineto 0 4 lineto fill");
    Bench.more(fresh, ".5 setgray 0 0 moveto 4 0 lineto 4 4 lineto 0 4 lineto fill");
    b.due("the dots are as at first", Bench.rows(x, -1, 4), Bench.rows(fresh, -1, 4));
  }
}
