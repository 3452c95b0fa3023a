/** The boundary cases that PART 3 names: full stacks, what is under way, errors and how it stops. */
public final class StepEdgesTest {
  private static final String FONT = "/F << /FontMatrix matrix /BuildChar {%s} >> definefont setfont 1 1 moveto ";
  private static final String PLAIN = String.format(FONT, "pop pop 1 0 setcharwidth");

  public static void main(String[] args) {
    Bench b = new Bench("StepEdgesTest");
    crowdedOperators(b);
    crowdedTokens(b);
    crowdedRounds(b);
    openDicts(b);
    deepProcedures(b);
    deepRounds(b);
    deepAndCrowded(b);
    deepStopped(b);
    keptGraphics(b);
    goingAtOnce(b);
    changedStrings(b);
    takenObjects(b);
    lookups(b);
    costs(b);
    errorNumbers(b);
    order(b);
    stopping(b);
    b.close();
  }

  /** Both sides of 200 operands: what is given fits exactly, then one operand more is there. */
  private static void crowds(Bench b, String setup, String taken, String text, int takes, int gives) {
    for (int more = 0; more <= 1; more++) {
      PaintTongue x = Bench.ran(setup);
      Bench.more(x, "0 ".repeat(200 - gives + more) + taken);
      int before = x.look(0);
      int room = x.look(4);
      String operands = Bench.operands(x);
      b.due("operands ahead of " + text, before, 200 - gives + more + takes);
      int answer = Bench.more(x, text);
      b.due(text + " with " + before, answer, more == 0 ? 0 : 2);
      b.due("error of " + text, x.look(10), more == 0 ? 0 : Bench.OVERFLOW);
      b.due("operands behind " + text, x.look(0), more == 0 ? 200 : before);
      if (more == 1) {
        b.due("they stay: " + text, Bench.operands(x), operands);
        b.due("no room taken by " + text, x.look(4), room);
        b.due("no save by " + text, x.look(6) + x.look(3), 0);
      }
    }
  }

  /** The OPERANDS, at most 200: else OVERFLOW; an operator with an error does nothing. */
  private static void crowdedOperators(Bench b) {
    String[] givers = {"count", "mark", "[", "<<", "currentdict", "countdictstack", "save", "currentlinewidth", "currentgray", "matrix"};
    for (String op : givers) {
      crowds(b, "", "", op, 0, 1);
    }
    crowds(b, "", "5", "dup", 1, 2);
    crowds(b, "", "1 2 2", "copy", 3, 4);
    crowds(b, "", "1 2 3 3", "copy", 4, 6);
    crowds(b, "", "mark", "counttomark", 1, 2);
    crowds(b, "", "", "vmstatus", 0, 2);
    crowds(b, "2 2 moveto", "", "currentpoint", 0, 2);
    crowds(b, "2 2 moveto", "", "pathbbox", 0, 4);
    crowds(b, PLAIN, "", "currentfont", 0, 1);
    crowds(b, "", "(abc) (b)", "search", 2, 4);
    crowds(b, "", "(abc) (a)", "anchorsearch", 2, 3);
    crowds(b, "", "(1 2)", "token", 1, 3);
    crowds(b, "", "({(abc)} 2)", "token", 1, 3);
    crowds(b, "/v 1 def", "/v", "where", 1, 2);
    crowds(b, "/r [1 2 3] def", "r", "aload", 1, 4);
    // What gives no more than it takes has its place always.
    for (String text : new String[] {"(abc) (x) search", "(abc) (b) anchorsearch", "() token", "/none where", "[] aload", "1 0 copy", "7 0 index",
        "1 2 exch", "() length", "1 exec", "() stringwidth pop pop"}) {
      int given = text.startsWith("()") && text.contains("width") ? 2 : 0;
      PaintTongue x = Bench.ran(PLAIN);
      Bench.more(x, "0 ".repeat(198 - given) + text);
      b.due("error of " + text, x.look(10), 0);
    }
  }

  /** Tokens and values that become operands. */
  private static void crowdedTokens(Bench b) {
    for (String token : new String[] {"7", "7.5", "/a", "(abc)", "<41>", "{1 (a)}", "//v", "v", "true", "null", "s"}) {
      crowds(b, "/v 5 def /s (abc) def", "", token, 0, 1);
    }
    PaintTongue x = Bench.ran("0 ".repeat(200));
    Bench.more(x, "/lit");
    b.due("a name that was taken is blamed", Bench.blamed(x), "lit");
    Bench.more(x, "true");
    b.due("so is one with a value", Bench.blamed(x), "true");
    Bench.more(x, "(s)");
    b.due("a string is not", Bench.blamed(x), "");
    b.due("200 stay", x.look(0), 200);
  }

  private static void crowdedRound(Bench b, String setup, String text, String op, int within, int left) {
    PaintTongue x = Bench.ran(setup);
    b.due(text + " with " + within, Bench.more(x, "0 ".repeat(within) + text), 0);
    x = Bench.ran(setup);
    b.due(text + " with one more", Bench.more(x, "0 ".repeat(within + 1) + text), 2);
    b.due("error of " + text, x.look(10), Bench.OVERFLOW);
    b.due("blamed by " + text, Bench.blamed(x), op);
    b.due("left by " + text, x.look(0), left);
  }

  /** A turn with an error does nothing: what it gives comes wholly or not. */
  private static void crowdedRounds(Bench b) {
    crowdedRound(b, "", "1 1 10 {} for", "for", 190, 200);
    crowdedRound(b, "/r [1 2 3 4 5] def", "r {} forall", "forall", 195, 200);
    crowdedRound(b, "", "(abcde) {} forall", "forall", 195, 200);
    crowdedRound(b, "/d << 1 2 3 4 5 6 >> def", "d {} forall", "forall", 194, 199);
    crowdedRound(b, "1 1 moveto 2 2 3 3 4 4 curveto", "{} {} {} {} pathforall", "pathforall", 192, 195);
    crowdedRound(b, PLAIN, "(a) show", "show", 198, 199);
    crowdedRound(b, PLAIN, "(a) stringwidth", "stringwidth", 198, 199);
    crowdedRound(b, PLAIN, "{} (ab) kshow", "kshow", 196, 199);
    crowdedRound(b, String.format(FONT, "pop"), "{} (ab) kshow", "kshow", 195, 199);
    crowdedRound(b, String.format(FONT, "pop"), "{pop pop} (ab) kshow", "kshow", 197, 199);
    PaintTongue x = Bench.ran(PLAIN);
    Bench.more(x, "0 ".repeat(199) + "() stringwidth");
    b.due("no room for a width", x.look(10), Bench.OVERFLOW);
    b.due("nor for a half of it", x.look(0), 199);
    b.due("no graphics stay kept", x.look(3), 0);
  }

  /** The DICTS that are open, 20: DICTSTACKFULL; the two at the bottom stay. */
  private static void openDicts(Bench b) {
    b.bound("? {1 dict begin} repeat", "18", "19", Bench.DICTSTACKFULL);
    b.bound("? {currentdict begin} repeat", "18", "19", Bench.DICTSTACKFULL);
    PaintTongue x = Bench.ran("18 {1 dict begin} repeat countdictstack 3 dict begin");
    b.due("what is refused stays", Bench.operands(x), "0:20 10:0");
    b.due("20 are open", x.look(1), 20);
    b.due("begin is blamed", Bench.blamed(x), "begin");
    b.bound("18 {1 dict begin} repeat ? {end} repeat", "18", "19", Bench.DICTSTACKEMPTY);
    b.fails("end", Bench.DICTSTACKEMPTY, "end", "");
    b.fails("1 dict begin end end", Bench.DICTSTACKEMPTY, "end", "");
    b.prints("countdictstack = 1 dict begin countdictstack = end countdictstack =", "2\n3\n2\n");
    b.due("the user's stays open", Bench.ran("{end} stopped /a 1 def a").look(1), 2);
  }

  /** Runs a text's operators where so much is under way: the text, procedures, and the last one, which isn't through. */
  private static PaintTongue deep(int under, String setup, String last) {
    StringBuilder chain = new StringBuilder(setup);
    for (int i = 1; i <= 98; i++) {
      chain.append(" /p" + i + (i == 98 ? " {last 0 pop} def" : " {p" + (i + 1) + " 0 pop} def"));
    }
    PaintTongue x = Bench.ran(chain.toString());
    Bench.more(x, "/last {" + last + " 0 pop} def");
    Bench.more(x, "p" + (98 - (under - 2) + 1) + " 0 pop");
    return x;
  }

  private static void deepEnds(Bench b, int under, String setup, String last, int error, String blamed, String left) {
    PaintTongue x = deep(under, setup, last);
    String what = last + " with " + under + " under way";
    b.due("error of " + what, x.look(10), error);
    b.due("run of " + what, x.run(0), error == 0 ? 0 : 2);
    b.due("blamed by " + what, Bench.blamed(x), blamed);
    b.due("left by " + what, Bench.operands(x), left);
  }

  /** What is UNDER WAY, 100: EXECFULL; what was to come and its operands stay. */
  private static void deepProcedures(Bench b) {
    String[] texts = {"{7} exec", "{} exec", "(7) cvx exec", "() cvx exec", "true {7} if", "true {7} {} ifelse", "false {} {7} ifelse", "true {} if"};
    for (String text : texts) {
      String given = text.contains("7") ? "0:7" : "";
      deepEnds(b, 99, "", text, 0, "", given);
      PaintTongue full = deep(100, "", text);
      b.due("100 and " + text, full.look(10), Bench.EXECFULL);
      String op = text.substring(text.lastIndexOf(' ') + 1);
      b.due("blamed by " + text, Bench.blamed(full), op);
      b.due("its operands stay: " + text, full.look(0), op.equals("ifelse") ? 3 : op.equals("if") ? 2 : 1);
    }
    deepEnds(b, 99, "/q {7} def", "q", 0, "", "0:7");
    deepEnds(b, 100, "/q {7} def", "q", Bench.EXECFULL, "q", "");
    deepEnds(b, 100, "/q {} def", "q", Bench.EXECFULL, "q", "");
    deepEnds(b, 99, "/q (7) cvx def", "q", 0, "", "0:7");
    deepEnds(b, 100, "/q (7) cvx def", "q", Bench.EXECFULL, "q", "");
    deepEnds(b, 100, "", "false {7} if 1 2 add {8} (s) cvx", 0, "", "0:3 9:1x 8:1x");
    // What goes as its last object is taken leaves its place: no bound for what calls at its end.
    b.gives("/r {1 sub dup 0 gt {r} if} def 300 r", "0:0");
    b.gives("/r (1 sub dup 0 gt {r} if) cvx def 300 r", "0:0");
  }

  /** A ROUND comes as the 100th; its turns need one more. */
  private static void deepRounds(Bench b) {
    String path = "1 1 moveto";
    String[][] rounds = {{"", "1 {} repeat", "repeat", "2"}, {"", "{exit} loop", "loop", "1"}, {"", "1 1 1 {pop} for", "for", "4"},
        {"", "[1] {pop} forall", "forall", "2"}, {path, "{pop pop} {} {} {} pathforall", "pathforall", "4"}, {PLAIN, "(a) show", "show", "1"},
        {PLAIN, "1 2 (a) ashow", "ashow", "3"}, {PLAIN, "1 2 3 (a) widthshow", "widthshow", "4"}, {PLAIN, "{pop pop} (a) kshow", "kshow", "2"},
        {PLAIN, "(a) stringwidth", "stringwidth", "1"}, {"", "1 1 1 matrix {()} image", "image", "5"},
        {"", "1 1 true matrix {()} imagemask", "imagemask", "5"}};
    for (String[] round : rounds) {
      PaintTongue x = deep(98, round[0], round[1]);
      b.due("98 and " + round[1], x.look(10), 0);
      x = deep(99, round[0], round[1]);
      b.due("99 and " + round[1], x.look(10), Bench.EXECFULL);
      b.due("its turn is blamed: " + round[1], Bench.blamed(x), round[2]);
      b.due("its operands are gone: " + round[1], x.look(0), 0);
      x = deep(100, round[0], round[1]);
      b.due("100 and " + round[1], x.look(10), Bench.EXECFULL);
      b.due("it is blamed: " + round[1], Bench.blamed(x), round[2]);
      b.due("its operands stay: " + round[1], x.look(0), Integer.parseInt(round[3]));
      b.due("no graphics are kept: " + round[1], x.look(3), 0);
    }
    String[][] empty = {{"", "0 {} repeat"}, {"", "1 1 0 {} for"}, {"", "[] {} forall"}, {"", "() {} forall"}, {"", "0 dict {} forall"},
        {"", "{} {} {} {} pathforall"}, {PLAIN, "() show"}, {PLAIN, "1 1 () ashow"}, {PLAIN, "{} () kshow"}, {PLAIN, "() stringwidth pop pop"}};
    for (String[] round : empty) {
      b.due("99 and " + round[1], deep(99, round[0], round[1]).look(10), 0);
      b.due("100 and " + round[1], deep(100, round[0], round[1]).look(10), Bench.EXECFULL);
    }
    b.due("the procedure between two signs", deep(98, PLAIN, "{{} exec pop pop} (ab) kshow").look(10), Bench.EXECFULL);
    b.due("with room", deep(97, PLAIN, "{{} exec pop pop} (ab) kshow").look(10), 0);
  }

  /** Of a sign's turn EXECFULL is told ahead of OVERFLOW. */
  private static void deepAndCrowded(Bench b) {
    for (int under = 98; under <= 99; under++) {
      PaintTongue x = deep(under, PLAIN, "(a) show");
      b.due("a sign with " + under + " under way", x.look(10), under == 98 ? 0 : Bench.EXECFULL);
      x = deep(under, PLAIN, "0 ".repeat(199) + "(a) show");
      b.due("with 199 operands besides", x.look(10), under == 98 ? Bench.OVERFLOW : Bench.EXECFULL);
      b.due("its turn is blamed", Bench.blamed(x) + x.look(0), "show199");
    }
  }

  /** A STOPPED comes, then what it takes: errors of that are met within it. */
  private static void deepStopped(Bench b) {
    deepEnds(b, 98, "", "{7} stopped", 0, "", "0:7 2:0");
    deepEnds(b, 99, "", "7 stopped", 0, "", "0:7 2:0");
    PaintTongue x = deep(99, "", "{7} stopped");
    b.due("caught by itself", Bench.operands(x), "2:1");
    b.due("its error", x.look(10), Bench.EXECFULL);
    b.due("not failed", x.run(0), 0);
    deepEnds(b, 100, "", "{7} stopped", Bench.EXECFULL, "stopped", "9:1x");
    deepEnds(b, 100, "", "7 stopped", Bench.EXECFULL, "stopped", "0:7");
  }

  /** GRAPHICS that are kept, 20: LIMIT. */
  private static void keptGraphics(Bench b) {
    b.bound("? {gsave} repeat", "20", "21", Bench.LIMIT);
    b.bound("? {gsave} repeat save", "19", "20", Bench.LIMIT);
    b.bound(PLAIN + "? {gsave} repeat (a) show", "19", "20", Bench.LIMIT);
    b.bound(PLAIN + "? {gsave} repeat () show", "20", "21", Bench.LIMIT);
    b.bound(PLAIN + "? {gsave} repeat (a) stringwidth", "18", "19", Bench.LIMIT);
    b.bound(PLAIN + "? {gsave} repeat () stringwidth", "19", "20", Bench.LIMIT);
    PaintTongue x = Bench.ran("20 {gsave} repeat gsave");
    b.due("20 are kept", x.look(3), 20);
    b.due("gsave is blamed", Bench.blamed(x), "gsave");
    x = Bench.ran("20 {gsave} repeat save");
    b.due("no save is live", x.look(6) + x.look(0), 0);
  }

  /** What has no more goes when it comes, and when an object was taken, ahead of what that does. */
  private static void goingAtOnce(Bench b) {
    PaintTongue x = new PaintTongue(8, 8);
    Bench.tape(x, "{} exec {1} exec {2 3} exec (4) cvx exec 5 {6} repeat %end");
    x.start();
    int[] under = {1, 1, 1, 2, 1, 1, 2, 2, 1, 1, 1, 2, 1, 1, 1, 1};
    for (int i = 0; i < under.length - 1; i++) {
      x.run(1);
      b.due("under way behind step " + (i + 1), x.look(2), under[i]);
    }
    b.due("the text's last token", x.run(1), 1);
    b.due("the text is gone, the round is there", x.look(2), 1);
    x.run(1);
    b.due("a turn", x.look(2), 2);
    x.run(1);
    b.due("its procedure is gone", x.look(2), 1);
    x.run(8);
    b.due("the last turn: all is gone", x.look(2), 0);
    b.due("through", x.run(0), 0);
    x = new PaintTongue(8, 8);
    Bench.tape(x, "{{1} stopped} stopped");
    x.start();
    x.run(4);
    b.due("a stopped, and one in it with its procedure", x.look(2), 3);
    x.run(1);
    b.due("both go without a step", x.look(2), 0);
    b.due("each with its false", Bench.operands(x), "0:1 2:0 2:0");
    b.due("steps", x.look(11), 5);
    x = Bench.ran("{0 {} repeat} stopped 3 {[] {} forall} repeat");
    b.due("rounds without turns, one within the other", x.look(11), 2 + 3 + 3 + 3 * 5);
  }

  /** A STRING whose bytes were changed since goes when it is the last one again, without a STEP; or it has more. */
  private static void changedStrings(Bench b) {
    PaintTongue x = Bench.ran("/s (p 7 8) def /p {s 1 (    ) putinterval 1} def s cvx exec 2");
    b.due("blanks in the place of tokens", Bench.operands(x), "0:1 0:2");
    b.due("it takes no step", x.look(11), 3 + 3 + 3 + 1 + 5 + 1);
    x = Bench.ran("/s (p 7     ) def /p {s 4 (89) putinterval} def s cvx exec");
    b.due("tokens in the place of blanks", Bench.operands(x), "0:7 0:89");
    x = Bench.ran("/s (p   ) def /p {s 2 (89) putinterval} def s cvx exec");
    b.due("it was gone already", Bench.operands(x), "");
    x = Bench.ran("/s (7 p 12) def /p {s 4 (34) putinterval s 0 (9) putinterval} def s cvx exec");
    b.due("its place is behind the token that was taken last", Bench.operands(x), "0:7 0:34");
  }

  /** What is taken becomes an operand, is done, or is executed. */
  private static void takenObjects(Bench b) {
    b.gives("{1 1.5 true null /a (s) {x}} exec count",
        "0:1 1:98304 2:1 3:0 5:1 8:1 9:1x 0:7");
    // An executable string or procedure is an operand where it is taken, executed where it is a name's value.
    b.gives("/p 1 array cvx def /p load 0 (7) cvx put p /q 1 array cvx def /q load 0 {8} put q", "8:1x 9:1x");
    b.gives("/s (7) cvx def s {s} exec /s load", "0:7 0:7 8:1x");
    b.gives("/o /add load cvl def o /o load exec 1 2 {o} exec", "6:0 6:0 0:1 0:2 6:0");
    b.gives("/p 1 array cvx def /p load 0 /add load cvl put p", "6:0");
    b.gives("/m mark def m /v save def v /d 1 dict def d /r [1] def r", "4:0 7:0 10:0 9:1");
    b.gives("/a /lit def a", "5:3");
  }

  /** Where a 51st NAME would be looked up in one step: LIMIT. */
  private static void lookups(Bench b) {
    StringBuilder chain = new StringBuilder("/n1 7 def ");
    for (int i = 2; i <= 52; i++) {
      chain.append("/n" + i + " /n" + (i - 1) + " cvx def ");
    }
    b.gives(chain + "n50 {n50} exec /n49 cvx exec", "0:7 0:7 0:7");
    b.fails(chain + "n51", Bench.LIMIT, "n51", "");
    // In the same step: exec's own name is the first one of it, an operator of a procedure has none.
    b.fails(chain + "/n50 cvx exec", Bench.LIMIT, "exec", "5:3x");
    b.gives(chain + "/n50 cvx //exec", "0:7");
    b.fails(chain + "{n51} exec", Bench.LIMIT, "n51", "");
    b.fails(chain + "/n51 cvx exec", Bench.LIMIT, "exec", "5:3x");
    PaintTongue x = Bench.ran(chain + "/n51 cvx stopped");
    b.due("within a stopped", Bench.operands(x) + " " + x.look(10) + Bench.blamed(x), "2:1 14stopped");
    b.fails("/a /b cvx def /b /a cvx def a", Bench.LIMIT, "a", "");
    b.gives(chain + "/n49 cvx stopped", "0:7 2:0");
    b.fails(chain.toString().replace("/n1 7 def ", "") + "n50", Bench.UNDEFINED, "n50", "");
    // Many steps, each with few.
    b.gives("/a 1 def 0 100 {a add} repeat", "0:100");
  }

  private static void steps(Bench b, String text, int want) {
    PaintTongue x = Bench.ran(text);
    b.due("error of " + text, x.look(10), 0);
    b.due("steps of " + text, x.look(11), want);
  }

  /** What costs more than a step. */
  private static void costs(Bench b) {
    for (String op : new String[] {"fill", "eofill", "clip", "eoclip"}) {
      steps(b, op, 1);
      steps(b, "1 1 moveto " + op, 3 + 1 + 1);
      steps(b, "1 1 moveto closepath " + op, 4 + 1 + 1);
      steps(b, "1 1 moveto 2 2 lineto " + op, 6 + 1 + 2);
      steps(b, "1 1 moveto 2 2 3 3 4 4 curveto closepath " + op, 3 + 7 + 1 + 1 + 9);
      steps(b, "1 1 moveto 2 2 lineto closepath 3 3 moveto 4 4 lineto 5 5 lineto " + op, 7 + 9 + 1 + 2 + 3);
    }
    steps(b, "stroke", 1);
    steps(b, "1 1 moveto stroke", 3 + 1 + 20);
    steps(b, "1 1 moveto 2 2 lineto stroke", 6 + 1 + 40);
    steps(b, "1 1 moveto 2 2 3 3 4 4 curveto stroke", 10 + 1 + 180);
    for (int h : new int[] {1, 2, 64}) {
      steps(b, "1 " + h + " 1 matrix {()} image", 6 + 2 + h);
      steps(b, "1 " + h + " true matrix {()} imagemask", 6 + 2 + h);
    }
    steps(b, "{} bind", 2);
    steps(b, "{1 2} bind", 2 + 2);
    steps(b, "{1 {2 {3} 4}} bind", 2 + 2 + 3 + 1);
    steps(b, "/p {1 2} def {//p //p} bind", 3 + 2 + 2 + 2);
    steps(b, "{1 [2 3]} bind", 2 + 5);
    // One that is an element of itself, or twice an element, is gone through once.
    steps(b, "/r {add r} def /r load 1 /r load put /r load bind", 3 + 6 + 3 + 2);
    steps(b, "/r {1 2 3} def {//r {//r 4} //r} bind", 3 + 2 + 3 + 3 + 2);
    // A turn that fails counts as a step; what it would have cost does not.
    PaintTongue x = Bench.ran("1 2 1 matrix {5} image");
    b.due("an image that doesn't paint", x.look(11), 6 + 2);
  }

  /** The errors' numbers, each by a text. */
  private static void errorNumbers(Bench b) {
    String[] texts = {"pop", "{1} loop", "1 true add", "-1 array", "none", "1 0 div", "0 dict begin 1 1 def", "{currentdict begin} loop", "end",
        "/r {r 1} def r", "exit", "save dup restore restore", "currentfont", "{gsave} loop", "currentpoint", ")", "]",
        "{1000 array pop} loop"};
    for (int i = 0; i < texts.length; i++) {
      b.errs(texts[i], i + 1);
    }
  }

  /** UNDERFLOW, then TYPE of any operand, then others as told. */
  private static void order(Bench b) {
    b.errs("true add", Bench.UNDERFLOW);
    b.errs("(a) 5 /x put pop 5 /x put", Bench.TYPE);
    b.errs("5 /x put", Bench.UNDERFLOW);
    b.errs("[1] 9 get", Bench.RANGE);
    b.errs("(a) 9 /x put", Bench.TYPE);
    b.errs("-1 [] repeat", Bench.TYPE);
    b.errs("[1 2] -1 true getinterval", Bench.TYPE);
    b.errs("99 99 99 [1] [] image", Bench.TYPE);
    b.errs("40000 true moveto", Bench.TYPE);
    b.errs("40000 1 lineto", Bench.POINT);
    b.errs("1.5 copy", Bench.UNDERFLOW);
    b.errs("1 1.5 copy", Bench.TYPE);
    b.errs("-1 index", Bench.RANGE);
    b.errs("1 -1 5 roll", Bench.RANGE);
  }

  /** To STOP: down to the latest STOPPED; of a 201st OPERAND by a STOPPED the 200th one goes. */
  private static void stopping(Bench b) {
    for (String text : new String[] {"{1} stopped", "{1 pop} stopped", "{stop} stopped", "{1 2 stop} stopped", "{none} stopped"}) {
      for (int there = 198; there <= 199; there++) {
        PaintTongue x = Bench.ran("/none {} def currentdict /none undef");
        Bench.more(x, "0 ".repeat(there) + text);
        boolean stops = text.contains("stop}") || text.contains("none}");
        boolean overflows = text.contains("1 2") && there == 199;
        int inside = text.contains("1 2") ? 2 : text.contains("{1}") ? 1 : 0;
        b.due("operands of " + text + " with " + there, x.look(0), Math.min(200, there + inside + 1));
        b.due("uppermost of " + text + " with " + there, x.top(0, 0) * 10 + x.top(0, 1), stops || overflows ? 21 : 20);
        b.due("not failed: " + text, x.run(0), 0);
      }
    }
    PaintTongue x = Bench.ran("{{{1 stop} stopped 2 stop} stopped 3 stop} stopped 4");
    b.due("each by its own", Bench.operands(x), "0:1 2:1 0:2 2:1 0:3 2:1 0:4");
    b.due("no error is kept", x.look(10) + x.blamed(0), -1);
    x = Bench.ran("1 stop 2");
    b.due("without one it has failed", x.run(0), 2);
    b.due("all goes", x.look(2), 0);
    b.due("no operand comes", Bench.operands(x), "0:1");
    x = Bench.ran("{1 0 div} stopped {stop} stopped");
    b.due("the latest error stays by a stop", x.look(10), Bench.RESULT);
  }
}
