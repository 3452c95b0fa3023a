/** PART 3, and control and memory of PART 4: steps, errors, rounds, saves. */
public final class ControlTest {
  public static void main(String[] args) {
    Bench b = new Bench("ControlTest");
    executing(b);
    rounds(b);
    leaving(b);
    stopping(b);
    underWay(b);
    full(b);
    blaming(b);
    binding(b);
    saves(b);
    refusedRestores(b);
    room(b);
    b.close();
  }

  private static void gives(Bench b, String text, String want) {
    PaintTongue x = Bench.ran(text);
    b.due("error of " + text, x.look(10), 0);
    b.due(text, Bench.operands(x), want);
  }

  private static void steps(Bench b, String text, int want) {
    b.due("steps of " + text, Bench.ran(text).look(11), want);
  }

  private static void executing(Bench b) {
    b.gives("{1 2 add} exec", "0:3");
    b.gives("1 2 /add load exec", "0:3");
    b.gives("1 2 /add cvx exec", "0:3");
    b.gives("(1 2 add) cvx exec (1 2)", "0:3 8:3");
    b.gives("5 exec [1] exec null exec (s) exec /a exec", "0:5 9:1 3:0 8:1 5:1");
    b.gives("/p {1} def p /p load xcheck", "0:1 2:1");
    b.gives("/s (7 8) cvx def s", "0:7 0:8");
    b.gives("/a /b cvx def /b 3 def a", "0:3");
    b.gives("{{1}} exec", "9:1x");
    b.gives("true {1} if false {2} if true {3} {4} ifelse false {5} {6} ifelse", "0:1 0:3 0:6");
    b.gives("1 2 /add load /exec load exec", "0:3");
    b.fails("1 {2} if", 3, "if", "0:1 9:1x");
    b.fails("true [2] if", 3, "if", "2:1 9:1");
    b.fails("true {1} ifelse", 1, "ifelse", "2:1 9:1x");
    b.fails("/none cvx exec", 5, "exec", "5:4x");
    b.fails("1 /add load exec", 1, "add", "0:1");
    b.fails("/a /b cvx def a", 5, "a", "");
    b.fails("/a /a cvx def a", 14, "a", "");
    StringBuilder chain = new StringBuilder("/n1 7 def ");
    for (int i = 2; i <= 51; i++) {
      chain.append("/n" + i + " /n" + (i - 1) + " cvx def ");
    }
    b.gives(chain + "n50", "0:7");
    b.fails(chain + "n51", 14, "n51", "");
  }

  private static void rounds(Bench b) {
    b.prints("0 1 3 {=} for 3 -1 1 {=} for 0 .5 1 {=} for 2 1 1 {=} for", "0\n1\n2\n3\n3\n2\n1\n0.0\n0.5\n1.0\n");
    b.prints("2147483646 1 2147483647 {=} for 32767.5 .25 32767.75 {=} for", "2147483646\n2147483647\n32767.5\n32767.75\n");
    b.prints("-2147483647 -1 -2147483648 {=} for 1 0 0 {=} for", "-2147483647\n-2147483648\n");
    b.prints("3 {(r) print} repeat 0 {(x) print} repeat", "rrr");
    b.prints("[1 (a) /b] {==} forall (AB) {==} forall [] {==} forall", "1\n(a)\n/b\n65\n66\n");
    b.prints("/d << /a 1 /b 2 >> def d {= = d /b undef} forall", "1\na\n");
    b.prints("/s (ab) def s {= s 1 120 put} forall /r [1 2] def r {= r 1 9 put} forall", "97\n120\n1\n9\n");
    steps(b, "0 1 3 {=} for", 5 + 8);
    steps(b, "3 {} repeat", 3 + 3);
    steps(b, "0 {} repeat", 3);
    steps(b, "{1} stopped", 3);
    b.fails("-1 {} repeat", 4, "repeat", "0:-1 9:0x");
    b.fails("1.0 {} repeat", 3, "repeat", "1:65536 9:0x");
    b.fails("1 1 true {} for", 3, "for", "0:1 0:1 2:1 9:0x");
    b.fails("40000 .5 1 {} for", 4, "for", "0:40000 1:32768 0:1 9:0x");
    b.fails("1 {} forall", 3, "forall", "0:1 9:0x");
    b.fails("[1] [2] forall", 3, "forall", "9:1 9:1");
    b.fails("[1] loop", 3, "loop", "9:1");
  }

  private static void leaving(Bench b) {
    b.gives("{1 exit 2} loop 3", "0:1 0:3");
    b.gives("1 1 9 {dup 3 eq {exit} if} for", "0:1 0:2 0:3");
    b.gives("5 {1 exit} repeat [1 2] {exit} forall", "0:1 0:1");
    b.gives("{{1 exit} loop 2 exit} loop", "0:1 0:2");
    b.gives("{(exit 5) cvx exec} loop", "");
    b.fails("exit", 11, "exit", "");
    b.fails("{exit} exec", 11, "exit", "");
    PaintTongue x = Bench.ran("{{exit} stopped exit} loop");
    b.due("a stopped is not left", Bench.operands(x), "2:1");
    b.due("its error", x.look(10), 11);
  }

  private static void stopping(Bench b) {
    b.gives("{1 2} stopped", "0:1 0:2 2:0");
    b.gives("{1 stop 2} stopped", "0:1 2:1");
    b.gives("{{stop} stopped} stopped", "2:1 2:0");
    b.gives("5 stopped", "0:5 2:0");
    b.gives("{} stopped () cvx stopped", "2:0 2:0");
    PaintTongue x = Bench.ran("{1 0 div 5} stopped");
    b.due("the operands stay", Bench.operands(x), "0:1 0:0 2:1");
    b.due("the error", x.look(10), 6);
    x = Bench.ran("/none cvx stopped");
    b.due("met within it", Bench.operands(x), "2:1");
    b.due("its error", x.look(10), 5);
    b.due("what it blames", Bench.blamed(x), "stopped");
    x = Bench.ran("/add load stopped");
    b.due("an operator within it", Bench.operands(x), "2:1");
    b.due("that is blamed", Bench.blamed(x), "add");
    x = Bench.ran("199 {0} repeat {1 2} stopped");
    b.due("the 200th one goes", x.look(0), 200);
    b.due("for true", x.top(0, 0) * 10 + x.top(0, 1), 21);
    b.due("that was met", x.look(10), 2);
    x = Bench.ran("199 {0} repeat {1} stopped");
    b.due("the 200th one goes for false", x.look(0) * 100 + x.top(0, 0) * 10 + x.top(0, 1), 20020);
    b.fails("1 stop 2", 0, "", "0:1");
  }

  private static void underWay(Bench b) {
    PaintTongue x = new PaintTongue(8, 8);
    Bench.tape(x, "{1 {2} exec 3} exec 4");
    x.start();
    x.run(2);
    b.due("a text and a procedure", x.look(2), 2);
    x.run(3);
    b.due("another one", x.look(2), 3);
    x.run(1);
    b.due("which goes with its last object", x.look(2), 2);
    x.run(1);
    b.due("the first one too", x.look(2), 1);
    x.run(1);
    b.due("and the text", x.look(2), 0);
    b.gives("/r {dup 0 gt {1 sub r} if} def 150 r", "0:0");
    x = new PaintTongue(8, 8);
    Bench.tape(x, "{1} stopped {2} 3 {4} repeat");
    x.start();
    x.run(3);
    b.due("a stopped goes without a step", Bench.operands(x), "0:1 2:0");
    b.prints("/s (7 =     ) def s cvx exec (   ) s copy pop", "7\n");
    x = Bench.ran("/s (/s load 31 (     ) putinterval 7 8 9) cvx def s");
    b.due("a string that was changed", Bench.operands(x), "");
    b.due("goes without a step", x.look(11), 10);
  }

  private static void full(Bench b) {
    b.fails("/r {r 1} def r", 10, "r", "");
    PaintTongue x = Bench.ran("{1} loop");
    b.due("201 operands", x.look(10), 2);
    b.due("200 stay", x.look(0), 200);
    b.due("nothing is blamed for a number", x.blamed(0), -1);
    x = Bench.ran("1 1 201 {} for");
    b.due("a turn's operand", x.look(10), 2);
    b.due("is the round's matter", Bench.blamed(x), "for");
    x = Bench.ran("200 {0} repeat (abc)");
    b.due("no room for a string", x.look(10), 2);
    b.due("which is not made", x.look(4), 2);
    for (String text : "dup|count|mark|[|counttomark|currentdict|countdictstack|matrix|save|currentgray|vmstatus".split("[|]")) {
      x = Bench.ran("199 {0} repeat mark " + text);
      b.due("overflow of " + text, x.look(10), 2);
      b.due("blamed by " + text, Bench.blamed(x), text);
      b.due("left by " + text, x.look(0), 200);
      b.due("made by " + text, x.look(5) + x.look(6) + x.look(3), 1);
    }
    x = Bench.ran("/r {{r} loop 1} def r");
    b.due("no room for a procedure", x.look(10), 10);
  }

  private static void blaming(Bench b) {
    b.fails("/f {1 0 div} def f", 6, "div", "0:1 0:0");
    b.fails("/f /div load def 1 0 f", 6, "div", "0:1 0:0");
    b.fails("foo", 5, "foo", "");
    b.fails("1 2 {foo} exec", 5, "foo", "0:1 0:2");
    b.fails("(foo) cvx exec", 5, "foo", "");
    b.due("a literal name that finds no room", Bench.blamed(Bench.ran("200 {0} repeat /lit")), "lit");
  }

  private static void binding(Bench b) {
    b.prints("{add {sub nobody /mul} 1} bind ==", "{ --add-- { --sub-- nobody /mul } 1 }\n");
    b.prints("/add 5 def {add true} bind ==", "{ add true }\n");
    b.prints("/p {add p} def /p load 1 /p load put /p load bind 0 get ==", "--add--\n");
    steps(b, "{1 {2 3} 4} bind", 2 + 5);
    b.fails("[1] bind", 3, "bind", "9:1");
    String two = "/q 2 array cvx def /q load 0 1000 array cvx put /q load 1 %d array cvx put /q load bind";
    b.due("2,000 elements", Bench.ran(String.format(two, 998)).look(10), 0);
    b.fails(String.format(two, 999), 14, "bind", "9:2x");
    steps(b, String.format(two, 998), 22 + 2000);
  }

  private static void saves(Bench b) {
    b.prints("/a [1 2] def /d 2 dict def /s (xy) def save a 0 (n) put d /k 1 put s 0 65 put /b 1 def restore "
        + "a == d length = s == /b where =", "[ 1 2 ]\n0\n(Ay)\nfalse\n");
    b.prints("save .5 setgray 3 setlinewidth gsave gsave restore currentgray = currentlinewidth =", "0.0\n1.0\n");
    b.prints("save save pop restore vmstatus pop =", "0\n");
    b.prints("/F << /FontMatrix matrix /BuildChar {} >> def /k F definefont pop save F /BuildChar undef restore "
        + "/k findfont length =", "2\n");
    PaintTongue x = Bench.ran("save 100 array pop (abc) pop restore");
    b.due("the room is free again", x.look(4), 0);
    b.due("the bodies are gone", x.look(5), 0);
    b.due("no save is live", x.look(6), 0);
    b.due("no graphics are kept", x.look(3), 0);
    x = Bench.ran("/one save def /two save def one restore");
    b.due("a save that was made ahead of its name", x.look(10), 0);
    b.due("its name is gone", Bench.more(x, "one"), 2);
    x = Bench.ran("save save exch restore");
    b.due("a later save is live no more", x.look(6), 0);
    Bench.more(x, "restore");
    b.due("it can't be restored", x.look(10), 12);
    x = Bench.ran("10 {save} repeat save");
    b.due("an eleventh save", x.look(10), 14);
    b.due("ten are live", x.look(6), 10);
    x = Bench.ran("/a 1 def save /a 2 def save /a 3 def restore a exch restore a");
    b.due("one within another", Bench.operands(x), "0:2 0:1");
  }

  private static void refusedRestores(Bench b) {
    b.fails("1 restore", 3, "restore", "0:1");
    b.fails("save dup restore restore", 12, "restore", "7:0");
    b.fails("save [1] exch restore", 12, "restore", "9:1 7:0");
    b.fails("save (s) exch restore", 12, "restore", "8:1 7:0");
    b.fails("save 1 dict begin restore", 12, "restore", "7:0");
    b.fails("save {restore 1} exec", 12, "restore", "7:0");
    b.fails("save [1] {pop restore} forall", 12, "restore", "7:0");
    b.fails("save (restore 1) cvx exec", 12, "restore", "7:0");
    b.due("a procedure that is through is not in use", Bench.ran("save {restore} exec").look(10), 0);
    b.due("what is above is no matter", Bench.ran("[1] save restore").look(10), 0);
    b.due("the user's dict is no matter", Bench.ran("save currentdict exch restore").look(10), 0);
    b.due("numbers are no matter", Bench.ran("save 1 /a null 4 -1 roll restore").look(10), 0);
  }

  private static void room(Bench b) {
    b.gives("vmstatus (abcd) pop vmstatus save vmstatus", "0:0 0:0 0:0 0:2 7:0 0:1 0:2");
    PaintTongue x = Bench.ran("11 {1000 array pop} repeat 0 979 array pop pop");
    b.due("11 rows, a procedure and one more", x.look(4), 11011 + 4 + 980);
    Bench.more(x, "15 string");
    b.due("exactly full", x.look(4), 12000);
    Bench.more(x, "0 string");
    b.due("one more", x.look(10), 18);
    b.due("blamed", Bench.blamed(x), "string");
    Bench.more(x, "()");
    b.due("a token", x.look(10), 18);
    b.due("blames nothing", Bench.blamed(x), "");
    b.due("full still", x.look(4), 12000);
    x = Bench.ran("2999 {0 string pop} repeat");
    b.due("3,000 bodies", x.look(5), 3000);
    Bench.more(x, "[");
    Bench.more(x, "]");
    b.due("one more body", x.look(10), 18);
  }
}
