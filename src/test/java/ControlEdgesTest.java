/** The boundary cases that PART 4 names of control and memory: rounds, exit, stopped, bind, save and restore. */
public final class ControlEdgesTest {
  private static final String FONT = "/F << /FontMatrix matrix /BuildChar {%s} >> definefont setfont 1 1 moveto ";
  private static final String PLAIN = String.format(FONT, "pop pop 1 0 setcharwidth");

  public static void main(String[] args) {
    Bench b = new Bench("ControlEdgesTest");
    repeats(b);
    wholeFors(b);
    fixedFors(b);
    foralls(b);
    changedInTheMiddle(b);
    exits(b);
    refusedExits(b);
    executing(b);
    binds(b);
    bindLimit(b);
    saves(b);
    liveNoMore(b);
    usedOperands(b);
    usedUnderWay(b);
    givenBack(b);
    restoredGraphics(b);
    restoresInSigns(b);
    status(b);
    b.close();
  }

  /** Below 0: RANGE; n turns. */
  private static void repeats(Bench b) {
    b.gives("0 {7} repeat 1 {8} repeat 2 {9} repeat", "0:8 0:9 0:9");
    b.fails("-1 {7} repeat", Bench.RANGE, "repeat", "0:-1 9:1x");
    b.fails("-2147483648 {7} repeat", Bench.RANGE, "repeat", "0:-2147483648 9:1x");
    b.gives("2147483647 {exit} repeat 1", "0:1");
    b.gives("0 1000 {1 add} repeat", "0:1000");
    b.gives("3 {} repeat 0 {} repeat", "");
  }

  /** Up to w, y below 0 down to w; a sum beyond the bounds is the end. */
  private static void wholeFors(Bench b) {
    b.gives("1 1 3 {} for 3 -1 1 {} for", "0:1 0:2 0:3 0:3 0:2 0:1");
    b.gives("1 2 4 {} for 4 -2 1 {} for", "0:1 0:3 0:4 0:2");
    b.gives("1 1 1 {} for 1 -1 1 {} for", "0:1 0:1");
    b.gives("2 1 1 {} for 1 -1 2 {} for", "");
    b.gives("2147483646 1 2147483647 {} for", "0:2147483646 0:2147483647");
    b.gives("2147483645 3 2147483647 {} for", "0:2147483645");
    b.gives("-2147483647 -1 -2147483648 {} for", "0:-2147483647 0:-2147483648");
    b.gives("-2147483646 -5 -2147483648 {} for", "0:-2147483646");
    b.gives("-2147483648 2147483647 2147483647 {} for", "0:-2147483648 0:-1 0:2147483646");
    b.gives("1 2147483647 2147483647 {} for 1 -2147483648 -2147483648 {} for", "0:1 0:1 0:-2147483647");
    // A step of 0 goes on without an end, if there is a turn at all.
    b.gives("5 0 5 {exit} for 6 0 5 {exit} for 0 4 0 9 {exch 1 add exch pop dup 7 eq {exit} if} for", "0:5 0:7");
  }

  /** As FIXED, if not all are INTEGERS; RANGE. */
  private static void fixedFors(Bench b) {
    b.gives("1 1 2.0 {} for 1 1.0 2 {} for 1.0 1 2 {} for", "1:65536 1:131072 1:65536 1:131072 1:65536 1:131072");
    b.gives("1 .5 2 {} for 2 -.5 1 {} for", "1:65536 1:98304 1:131072 1:131072 1:98304 1:65536");
    b.gives("0 .3 1 {} for", "1:0 1:19660 1:39320 1:58980");
    b.gives("32767.0 .5 32767.99999 {} for", "1:2147418112 1:2147450880");
    b.gives("32767.5 .49999 32767.99999 {} for", "1:2147450880 1:2147483647");
    b.gives("-32767.5 -.5 -32768 {} for", "1:-2147450880 1:-2147483648");
    b.gives("-32767.0 -2 -32768.0 {} for", "1:-2147418112");
    for (String text : new String[] {"? 1.0 0 {} for", "? 1 0.0 {} for", "1.0 ? 0 {} for", "1 ? 0.0 {} for", "1.0 1 ? {exit} for", "1 1.0 ? {exit} for"}) {
      b.bound(text, "32767", "32768", Bench.RANGE);
      b.errs(text.replace("?", "-32769"), Bench.RANGE);
    }
    b.gives("32768 1 32769 {} for", "0:32768 0:32769");
  }

  /** Of a ROW each element, of a STRING each byte, of a DICT the KEY, then the value. */
  private static void foralls(Bench b) {
    b.gives("[] {9} forall () {9} forall 0 dict {9} forall 5 dict {9} forall", "");
    b.gives("[1 /a] {} forall (a\\377) {} forall << 1 2 /k 3 >> {} forall", "0:1 5:1 0:97 0:255 0:1 0:2 5:1 0:3");
    b.gives("[1 2 3] 1 2 getinterval {} forall (abc) 1 1 getinterval {} forall", "0:2 0:3 0:98");
    b.gives("{a 1} {} forall", "5:1x 0:1");
    b.gives("[{1} (x) cvx] {} forall", "9:1x 8:1x");
    PaintTongue x = Bench.ran("0 1000 array {pop 1 add} forall");
    b.due("a thousand turns", x.top(0, 1), 1000);
  }

  /** All as they are at that turn. */
  private static void changedInTheMiddle(Bench b) {
    b.gives("/r [1 2 3] def r {r 1 9 put r 0 8 put} forall", "0:1 0:9 0:3");
    b.gives("/s (abc) def s {s 1 120 put} forall", "0:97 0:120 0:99");
    b.gives("/d 3 dict def d 1 2 put d {d 5 6 put d 7 8 put} forall", "0:1 0:2 0:5 0:6 0:7 0:8");
    b.gives("/d << 1 2 3 4 5 6 >> def d {d 5 undef} forall", "0:1 0:2 0:3 0:4");
    b.gives("/d << 1 2 3 4 5 6 >> def d {d 1 undef} forall", "0:1 0:2 0:5 0:6");
    b.gives("/d << 1 2 3 4 >> def d {d 3 9 put} forall", "0:1 0:2 0:3 0:9");
    b.gives("/d << 1 2 3 4 >> def d {d 1 undef d 3 undef} forall", "0:1 0:2");
  }

  /** The latest ROUND of these goes, with all behind it. */
  private static void exits(Bench b) {
    b.gives("{1 exit 2} loop 3", "0:1 0:3");
    b.gives("3 {1 exit 2} repeat 3", "0:1 0:3");
    b.gives("1 1 5 {exit 2} for 3", "0:1 0:3");
    b.gives("[1 2] {exit 2} forall (ab) {exit} forall << 1 2 >> {exit} forall 3", "0:1 0:97 0:1 0:2 0:3");
    b.gives("5 6 moveto {exit 2} {} {} {} pathforall 3", "1:327680 1:393216 0:3");
    b.gives("{ {1 exit 2} loop 3 exit 4 } loop 5", "0:1 0:3 0:5");
    b.gives("{ {{{1 exit} exec} exec} exec 2 } loop 3", "0:1 0:3");
    b.gives("{ (1 exit 2) cvx exec 3 } loop 4", "0:1 0:4");
    b.gives("{ true {1 exit} if } loop 3", "0:1 0:3");
    PaintTongue x = Bench.ran(PLAIN + "{3 exit 4} (ab) kshow 5");
    b.due("between two signs", Bench.operands(x), "0:97 0:98 0:3 0:5");
    b.due("the second one isn't shown", x.graphics(6), 2 * 65536);
  }

  /** EXIT, if there is none, or a STOPPED, a text, a ROUND of another sort behind it, or a sign isn't through. */
  private static void refusedExits(Bench b) {
    b.fails("exit", Bench.EXIT, "exit", "");
    b.fails("{exit} exec", Bench.EXIT, "exit", "");
    b.fails("(exit) cvx exec", Bench.EXIT, "exit", "");
    b.fails("{1 exit} loop exit", Bench.EXIT, "exit", "0:1");
    PaintTongue x = Bench.ran("{ {1 exit 2} stopped 3 exit } loop 4");
    b.due("a stopped behind it", Bench.operands(x), "0:1 2:1 0:3 0:4");
    b.due("its error", x.look(10), Bench.EXIT);
    String sign = String.format(FONT, "pop pop exit");
    for (String show : new String[] {"(a) show", "1 1 (a) ashow", "1 1 1 (a) widthshow", "(a) stringwidth", "{} (a) kshow", "{} (ab) kshow"}) {
      x = Bench.ran(sign + "{" + show + "} loop");
      b.due("in a sign of " + show, x.look(10), Bench.EXIT);
      b.due("it is blamed", Bench.blamed(x), "exit");
      b.due("graphics as ahead of it", x.look(3) * 10 + x.look(16), 1);
    }
    b.fails("{1 1 1 matrix {exit} image} loop", Bench.EXIT, "exit", "");
    b.fails("{1 1 true matrix {exit} imagemask} loop", Bench.EXIT, "exit", "");
    b.gives("1 1 1 matrix {{exit} loop ()} image", "");
    b.gives(String.format(FONT, "pop pop {exit} loop") + "(a) show", "");
    x = new PaintTongue(8, 8);
    Bench.tape(x, "{} loop");
    x.start();
    x.run(10);
    b.due("a new text has no round of the old one", Bench.more(x, "exit"), 2);
    b.due("its error", x.look(10), Bench.EXIT);
  }

  /** exec, if, ifelse, stopped. */
  private static void executing(Bench b) {
    b.gives("1 exec 1.5 exec true exec null exec mark exec save exec 1 dict exec [1] exec (a) exec /a exec",
        "0:1 1:98304 2:1 3:0 4:0 7:0 10:0 9:1 8:1 5:1");
    b.gives("/add load cvl exec", "6:0");
    b.gives("true {1} if false {1} if true {} if", "0:1");
    b.gives("true {1} {2} ifelse false {1} {2} ifelse", "0:1 0:2");
    b.gives("1 stopped /a stopped [1] stopped {} stopped () cvx stopped", "0:1 2:0 5:1 2:0 9:1 2:0 2:0 2:0");
    b.gives("{1 stop 2} stopped {stop} stopped", "0:1 2:1 2:1");
    b.gives("1 2 /add load stopped 3 4 /add cvx stopped", "0:3 2:0 0:7 2:0");
    PaintTongue x = Bench.ran("1 /add load stopped");
    b.due("an error within it", Bench.operands(x) + " " + x.look(10) + Bench.blamed(x), "0:1 2:1 1add");
    x = Bench.ran("/stop load stopped");
    b.due("a stop within it", Bench.operands(x) + " " + x.look(10), "2:1 0");
    x = Bench.ran("/none cvx stopped");
    b.due("a name without a value within it", Bench.operands(x) + " " + x.look(10), "2:1 5");
    b.fails("/none cvx exec", Bench.UNDEFINED, "exec", "5:4x");
  }

  /** EXECUTABLE NAMES whose value just now is an OPERATOR (EXECUTABLE) become that. */
  private static void binds(Bench b) {
    b.prints("{add /add none true {sub {mul}} [div]} bind ==", "{ --add-- /add none true { --sub-- { --mul-- } } --[-- --div-- --]-- }\n");
    b.prints("/add 1 def /plus /sub load def /lit /mul load cvl def {add plus lit} bind ==", "{ add --sub-- lit }\n");
    b.prints("/p {add} def {p //p} bind == /p load ==", "{ p { --add-- } }\n{ --add-- }\n");
    b.prints("/q [/add cvx] def {//q} bind == q ==", "{ [ add ] }\n[ add ]\n");
    b.prints("/p {add sub} def /p load 0 1 getinterval bind pop /p load ==", "{ --add-- sub }\n");
    b.gives("{} bind 1 2 {add} bind exec", "9:0x 0:3");
    b.prints("/p {add {sub}} def /p load 0 1 getinterval bind pop /p load ==", "{ --add-- { sub } }\n");
    // What an earlier bind went through is no matter of a later one.
    b.prints("/x {none} def {1 //x 2} bind pop {//x} bind pop /none /add load def {3} bind pop /x load ==", "{ none }\n");
    b.prints("/x {none} def {1 //x 2} bind pop {//x} bind pop /none /add load def {//x} bind pop /x load ==", "{ --add-- }\n");
    int head = Bench.ran("{1 {2 3 4}} bind pop {5}").look(11);
    b.due("nor of its cost", Bench.ran("{1 {2 3 4}} bind pop {5} bind").look(11) - head, 1 + 1);
    b.gives("/r {add r} def /r load 1 /r load put /r load bind 0 get", "6:0x");
    // Names alone are looked up, whatever else is a key.
    b.gives("/add load /sub load def {//add} bind 0 get /add load eq", "2:1");
    b.gives("/r {add r} def /r load 1 /r load put /r load bind /r load eq", "2:1");
  }

  /** More than 2,000 elements in all: LIMIT; each PROCEDURE once. */
  private static void bindLimit(Bench b) {
    String two = "/q 2 array cvx def /q load 0 1000 array cvx put /q load 1 ? array cvx put ";
    b.bound(two + "/q load bind", "998", "999", Bench.LIMIT);
    PaintTongue x = Bench.ran(two.replace("?", "999") + "/q load 1 get 0 /add cvx put /q load bind");
    b.due("then nothing has changed", x.look(10), Bench.LIMIT);
    Bench.more(x, "1 get 0 get");
    b.due("a name still", Bench.operands(x), "5:3x");
    String same = "/a 1000 array cvx def /q ? array cvx def 0 1 ? 1 sub {/q load exch /a load put} for /q load bind";
    b.bound(same, "1000", "1001", Bench.RANGE);
    b.bound("/a 999 array cvx def /c 2 array cvx def /c load 0 /a load put /q 1000 array cvx def 0 1 999 {/q load exch /a load put} for "
        + "/q load 999 /c load 0 ? getinterval put /q load bind", "1", "2", Bench.LIMIT);
    x = Bench.ran("{1 {2 3} 4} bind");
    b.due("its cost", x.look(11), 2 + 5);
    x = Bench.ran(two.replace("?", "999") + "/q load bind");
    int head = Bench.ran(two.replace("?", "999") + "/q load").look(11);
    b.due("no cost where it is refused", x.look(11), head + 1);
    // As many procedures as elements: the last one is gone through, too.
    String empty = "/a 999 array def /c 1000 array def 0 1 997 {a exch 0 array cvx put} for 0 1 998 {c exch 0 array cvx put} for a 998 c cvx put ";
    b.gives(empty + "c 999 {add} put a cvx bind pop c 999 get 0 get", "6:0x");
    b.errs(empty + "c 999 {add sub} put a cvx bind", Bench.LIMIT);
  }

  /** At most 10 are LIVE, and 20 GRAPHICS kept: LIMIT. */
  private static void saves(Bench b) {
    b.bound("? {save} repeat", "10", "11", Bench.LIMIT);
    b.bound("? {gsave} repeat save", "19", "20", Bench.LIMIT);
    PaintTongue x = Bench.ran("10 {save} repeat save");
    b.due("ten are live", x.look(6) * 1000 + x.look(3) * 10 + x.look(0) % 10, 10100);
    b.due("save is blamed", Bench.blamed(x), "save");
    b.gives("10 {save} repeat restore save pop clear", "");
    x = Bench.ran("10 {save} repeat " + "restore ".repeat(9) + "save ".repeat(9));
    b.due("room for nine again", x.look(6) + x.look(10), 10);
    b.gives("save save eq save dup eq", "2:0 2:1");
    b.gives("100 {save restore} repeat save", "7:0");
  }

  /** Not LIVE: RESTORE; it and all later SAVES are LIVE no more. */
  private static void liveNoMore(Bench b) {
    b.fails("save dup restore restore", Bench.RESTORE, "restore", "7:0");
    b.fails("save save 1 index restore restore", Bench.RESTORE, "restore", "7:0 7:0");
    b.fails("/a save def save a restore restore", Bench.RESTORE, "restore", "7:0");
    b.gives("save save restore restore", "");
    b.gives("save save save exch pop restore restore", "");
    PaintTongue x = Bench.ran("save save save pop restore");
    b.due("the one ahead stays live", x.look(6), 1);
    x = Bench.ran("save save save pop pop restore");
    b.due("none is live", x.look(6) + x.look(3), 0);
    // A new save isn't the old one that had its place.
    b.fails("save dup restore save exch restore", Bench.RESTORE, "restore", "7:0 7:0");
  }

  /** RESTORE, if there is among the OPERANDS or the DICTS a COMPOSITE object whose body was made behind that save. */
  private static void usedOperands(Bench b) {
    for (String made : new String[] {"()", "(a)", "[]", "[1]", "{}", "0 dict", "1 array cvx", "(abc) 1 0 getinterval", "({}) token pop exch pop",
        "matrix", "<41>"}) {
      b.errs("save " + made + " exch restore", Bench.RESTORE);
      b.errs(made + " save restore", 0);
      b.errs(made + " save " + made + " pop restore", 0);
      b.errs("/x " + made + " def save /x load exch restore", 0);
      b.errs("save /x " + made + " def restore", 0);
      b.errs("save [" + made + "] pop restore", 0);
      b.errs("[0] save exch dup 0 " + made + " put exch restore", 0);
    }
    for (String other : new String[] {"1", "1.5", "true", "null", "mark", "/new", "/add load", "save", "currentdict", "-1", "2147483647", "-1.5",
        "32767.99999", "-2147483648", "100000000"}) {
      b.errs("save " + other + " exch restore", 0);
      b.errs(other + " save restore", 0);
    }
    // Wherever it is among the others.
    b.errs("1 save [1] exch restore", Bench.RESTORE);
    b.errs("[2] 1 save (a) exch restore", Bench.RESTORE);
    b.errs("save [1] 2 3 4 -1 roll restore", Bench.RESTORE);
    b.errs("(a) save 1 [1] 2 4 -1 roll restore", Bench.RESTORE);
    b.errs("/d 1 dict def save 1 dict begin d begin restore", Bench.RESTORE);
    b.errs("/d 1 dict def save d begin 1 dict begin restore", Bench.RESTORE);
    b.errs("/d 1 dict def save d begin d begin restore", 0);
    b.fails("save 1 dict begin restore", Bench.RESTORE, "restore", "7:0");
    b.errs("1 dict save exch begin restore", 0);
    b.errs("save 1 dict begin end restore", 0);
    b.errs("save currentdict begin restore", 0);
    // Only those made behind the one that is restored.
    b.errs("save [1] save restore pop pop", 0);
    b.errs("save [1] save 3 -1 roll pop restore", 0);
    b.errs("save [1] save pop exch restore", Bench.RESTORE);
    PaintTongue x = Bench.ran("/a 1 def save /a 2 def gsave .5 setgray (abc) exch restore");
    b.due("nothing has changed then", x.look(6) * 1000 + x.look(3) * 100 + x.look(4), 1202);
    b.due("nor the grey", x.graphics(8), 32768);
    Bench.more(x, "a");
    b.due("nor a dict", x.top(0, 1), 2);
  }

  /** Or UNDER WAY, all that is used there. */
  private static void usedUnderWay(Bench b) {
    String path = "1 1 moveto ";
    String[] used = {"save {restore 1} exec", "save {{restore 1} exec 1} exec", "save (restore 1) cvx exec",
        "save 1 {restore} repeat", "save {restore exit} loop", "save 1 1 1 {pop restore} for", "save [1] {pop restore} forall",
        "/p {pop restore} def save [1] /p load forall", "/p {pop restore} def save (a) /p load forall",
        "/p {pop pop restore} def save << 1 2 >> /p load forall", path + "save {pop pop restore} {} {} {} pathforall", "/p {pop pop restore} def /q {} def " + path + "save /p load {} /q load /q load pathforall",
        "/p {pop pop restore} def /q {} def " + path + "save /p load /q load {} /q load pathforall",
        "/p {pop pop restore} def /q {} def " + path + "save /p load /q load /q load {} pathforall",
        "/m matrix def save 1 1 1 m {restore ()} image", PLAIN + "save {pop pop restore} (ab) kshow",
        PLAIN + "/p {pop pop restore} def save /p load (ab) kshow"};
    for (String text : used) {
      b.errs(text, Bench.RESTORE);
    }
    for (String text : new String[] {"/p {restore 7} def save {p 8} exec 9", "/p {restore 7} def save 1 {p 8} repeat 9",
        "/p {restore 7} def /q {p 6} def save {q 8} exec 9", "/p {restore 7} def save (p 8) cvx exec 9"}) {
      b.errs(text, Bench.RESTORE);
    }
    b.errs("/p {restore 7} def /q {p 6} def /r {q 5} def save r 9", 0);
    String[] unused = {"save {restore} exec", "/p {restore 1} def save p", "/s (restore 1) cvx def save s", "/p {restore} def save 1 /p load repeat",
        "/p {pop restore} def save 1 1 1 /p load for", "/p {pop restore} def /r [1] def save r /p load forall",
        "/p {pop restore} def /s (a) def save s /p load forall", "/p {restore exit} def save /p load loop", "save {1} pop restore",
        "/p {restore} def save /p load stopped", "/p {pop pop restore} def /q {} def " + path + "save /p load /q load /q load /q load pathforall",
        "/m matrix def /p {restore s} def /s () def save 1 1 1 m /p load image",
        PLAIN + "/p {pop pop restore} def /s (ab) def save /p load s kshow"};
    for (String text : unused) {
      PaintTongue x = Bench.ran(text);
      b.due("error of " + text, x.look(10), 0);
      b.due("live behind " + text, x.look(6), 0);
    }
    b.errs(PLAIN + "/p {pop pop restore} def /t (ab) def save /p load (ab) kshow", Bench.RESTORE);
    // The matrix of an image is used no more when it has begun.
    b.errs("/p {restore s} def /s () def save 1 1 1 matrix /p load image", 0);
  }

  /** All ROWS and DICTS, and the FONTS, have what they had; bodies go with their ROOM; bytes of STRINGS stay. */
  private static void givenBack(Bench b) {
    b.prints("/r [1 2] def /s (ab) def /d 2 dict def d 1 2 put save r 0 9 put s 0 120 put d 1 undef d 5 6 put d 1 7 put restore "
        + "r == s == d {exch = =} forall", "[ 1 2 ]\n(xb)\n1\n2\n");
    b.prints("/d 3 dict def d 1 1 put save d 2 2 put d 3 3 put restore d length = save d 1 undef restore d length =", "1\n1\n");
    b.prints("/p {1 2} def save /p load 0 9 put restore /p load ==", "{ 1 2 }\n");
    b.prints("/a 1 def save /a 2 def /c 3 def restore a = /c where =", "1\nfalse\n");
    b.prints("/a 0 def save /a 1 def save /a 2 def save /a 3 def restore a = restore a = restore a =", "2\n1\n0\n");
    b.prints("/a 0 def save /a 1 def save /a 2 def save /a 3 def pop pop restore a =", "0\n");
    b.prints("/k << /FontMatrix matrix /BuildChar {} >> definefont pop save /l /k findfont definefont pop /k /k findfont 2 scalefont "
        + "definefont pop restore /k findfont /FontMatrix get 0 get =", "1.0\n");
    b.fails("/k << /FontMatrix matrix /BuildChar {} >> definefont pop save /l /k findfont definefont pop restore /l findfont",
        Bench.FONT, "findfont", "5:1");
    PaintTongue x = Bench.ran("(abc) [1 2] save 500 string pop 9 dict pop {1 (a)} pop restore");
    b.due("room", x.look(4), 2 + 3);
    b.due("bodies", x.look(5), 2);
    b.due("operands", Bench.operands(x), "8:3 9:2");
    x = Bench.ran("/new1 1 def save /new2 2 def (new3) cvn pop restore");
    b.due("names that were met stay met", x.look(7), 3);
    x = Bench.ran("save (a) print showpage 0 0 moveto 5 0 lineto 5 5 lineto fill restore");
    b.due("what was printed, painted and out stays", x.look(8) * 100 + x.look(9) * 10 + (x.look(13) > 0 ? 1 : 0), 111);
  }

  /** GRAPHICS become as the save kept them, which goes with all kept behind it. */
  private static void restoredGraphics(Bench b) {
    PaintTongue x = Bench.ran(".25 setgray 3 setlinewidth gsave 1 1 moveto save .5 setgray 2 2 lineto gsave gsave 5 5 translate restore");
    b.due("kept ahead of it", x.look(3), 1);
    b.due("grey", x.graphics(8), 16384);
    b.due("path", x.look(12), 1);
    b.due("matrix", x.graphics(4), 0);
    x = Bench.ran("gsave save grestore grestore grestoreall");
    b.due("grestore and grestoreall leave what a save kept", x.look(3), 2);
    Bench.more(x, "restore grestore");
    b.due("then the gsave goes", x.look(3), 0);
    x = Bench.ran(".25 setgray save .5 setgray gsave .75 setgray save .9 setgray pop grestoreall");
    b.due("the latest save", x.graphics(8) * 10L + x.look(3), 491520 + 3);
    Bench.more(x, "restore");
    b.due("the first save", x.graphics(8) * 10L + x.look(3), 163840);
  }

  /** In a sign, from ahead of it: RESTORE. */
  private static void restoresInSigns(Bench b) {
    String sign = String.format(FONT, "pop pop v restore");
    for (String show : new String[] {"(a) show", "(a) stringwidth", "{} (a) kshow"}) {
      b.fails("/v null def " + sign + "/s (a) def /v save def " + show.replace("(a)", "s"), Bench.RESTORE, "restore", "7:0");
    }
    b.errs(String.format(FONT, "pop pop save restore") + "(a) show", 0);
    b.errs(String.format(FONT, "pop pop save save pop restore") + "save pop (a) stringwidth", 0);
    PaintTongue x = Bench.ran(String.format(FONT, "pop pop save pop save pop") + "save pop (ab) show");
    b.due("those of a sign are live no more behind it", x.look(6), 1);
    x = Bench.ran(String.format(FONT, "pop pop /v save def") + "(a) show");
    Bench.more(x, "v restore");
    b.due("nor can they be restored", x.look(10), Bench.RESTORE);
    x = Bench.ran(String.format(FONT, "pop pop {v restore} stopped pop clear") + "/v save def (a) show v restore");
    b.due("behind the sign it can", x.look(6), 0);
    // Between two signs of kshow there is none.
    b.errs("/p {pop pop v restore} def /s (ab) def " + PLAIN + "/v save def /p load s kshow", 0);
  }

  /** LIVE SAVES, ROOM taken. */
  private static void status(Bench b) {
    b.gives("vmstatus", "0:0 0:0");
    b.gives("save vmstatus 3 -1 roll pop", "0:1 0:0");
    b.gives("(abcde) pop 10 array pop vmstatus", "0:0 0:14");
    b.gives("10 {save pop} repeat vmstatus", "0:10 0:3");
  }
}
