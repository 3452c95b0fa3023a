/** PART 2: how texts are read. */
public final class TokenTest {
  public static void main(String[] args) {
    Bench b = new Bench("TokenTest");
    numbers(b);
    words(b);
    strings(b);
    procedures(b);
    syntax(b);
    limits(b);
    b.close();
  }

  private static void holds(Bench b, String text, String want) {
    PaintTongue x = Bench.ran(text);
    b.due("error of " + text, x.look(10), 0);
    b.due(text, Bench.operands(x), want);
  }

  private static void numbers(Bench b) {
    b.gives("0 7 +7 -7 007 2147483647 -2147483648", "0:0 0:7 0:7 0:-7 0:7 0:2147483647 0:-2147483648");
    b.gives("1.5 .5 5. -.5 +0.25 -.1", "1:98304 1:32768 1:327680 1:-32768 1:16384 1:-6554");
    b.gives("32767.9999999999999 -32768.0 0.0000152587890625 0.0000152587890624",
        "1:2147483647 1:-2147483648 1:1 1:0");
    b.gives("-0.00001525878906250 -0.00001525878906250001", "1:-1 1:-2");
    b.gives("16#ff 2#101 36#zZ 02#11 16#FFFFFFFF 8#37777777777", "0:255 0:5 0:1295 0:3 0:-1 0:-1");
    b.fails("2147483648", 4, "", "");
    b.fails("-2147483649", 4, "", "");
    b.fails("32768.0", 4, "", "");
    b.fails("-32768.00001", 4, "", "");
    b.fails("16#100000000", 4, "", "");
    b.fails("99999999999999999999999999999999999999999", 4, "", "");
    for (String name : "+ - . +. 1.2.3 1e5 2#12 37#1 1#0 16# #5 16#-1 +16#5 100#1 --5 5-".split(" ")) {
      b.fails(name, 5, name, "");
    }
  }

  private static void words(Bench b) {
    b.gives("/a/b(c)/d[", "5:1 5:1 8:1 5:1 4:0");
    b.gives("/123 /a#!~", "5:3 5:4");
    b.gives("1%x ) { (\n2%end", "0:1 0:2");
    b.gives("1% \t\u00ff any\n2", "0:1 0:2");
    b.gives("/a 5 def //a {//a /a a} aload pop", "0:5 0:5 5:1 5:1x");
    b.gives("//true /p {1} def //p", "2:1 9:1x");
    b.gives("1 2 //add", "0:3");
    b.prints("<</a 1>>length =", "1\n");
    b.fails("{//none}", 5, "", "");
    b.due("names of a token with an error are met", Bench.ran("{one two //three (}").look(7), 3);
  }

  private static void strings(Bench b) {
    b.prints("(a\\nb\\tc\\\\d\\(e\\)f\\qg) print", "a\nb\tc\\d(e)fqg");
    b.prints("(\\101\\1012\\7\\400\\18) print", "AA2\u0007\u0000\u00018");
    b.prints("(a\\\nb) print", "ab");
    b.prints("(a(b(c))d) print", "a(b(c))d");
    b.prints("(\u0001\t\u00e9) print", "\u0001\t\u00e9");
    b.prints("<4142 4\n3> print <4> print <> length =", "ABC@0\n");
    b.prints("<aAfF0> length =", "3\n");
  }

  private static void procedures(Bench b) {
    b.prints("{a /b 1.5 (s) {c} [ ] << >> <41>} ==", "{ a /b 1.5 (s) { c } [ ] << >> (A) }\n");
    PaintTongue x = Bench.ran("{1 {2 (abcd)} 3}");
    b.due("room of what a procedure has", x.look(4), 4 + 3 + 2);
    b.due("bodies of it", x.look(5), 3);
    b.due("one step", x.look(11), 1);
    x = Bench.ran("{1 {2 (abcd)} ) }");
    b.due("no room where the token has an error", x.look(4), 0);
    b.due("no bodies there", x.look(5), 0);
  }

  private static void syntax(Bench b) {
    String[] texts = {"(a", "(a\\", "(a(b)", "<41", "{1", "{{1}", ")", ">", "}", "< 4x >", "<41%\n>", "/", "/ a", "//", "///a",
        "/(a)", "\t", "a\u00e9", "\u007f"};
    for (String text : texts) {
      PaintTongue x = Bench.ran(text.startsWith("a") ? "/a 1 def " + text : text);
      b.due("run of " + text, x.run(0), 2);
      b.due("error of " + text, x.look(10), 16);
      b.due("blamed by " + text, Bench.blamed(x), "");
    }
    PaintTongue caught = Bench.ran("{(1 2 \\) 3) cvx exec} stopped");
    b.due("an error of an executed string is caught", Bench.operands(caught), "0:1 0:2 2:1");
    b.due("and kept", caught.look(10), 16);
    b.prints("{(1 2 % 3) cvx exec} stopped = count =", "false\n2\n");
  }

  private static void limits(Bench b) {
    String thirty = "abcdefghijabcdefghijabcdefghij";
    b.fails(thirty, 5, thirty, "");
    b.fails(thirty + "k", 14, "", "");
    b.fails("/" + thirty + "k", 14, "", "");
    b.gives("/" + thirty, "5:30");
    b.due("20 within one another", Bench.ran("{".repeat(20) + "}".repeat(20)).look(10), 0);
    b.fails("{".repeat(21) + "}".repeat(21), 14, "", "");
    b.gives("{" + "1 ".repeat(400) + "}", "9:400x");
    b.fails("{" + "1 ".repeat(401) + "}", 14, "", "");
    b.gives("(" + "x".repeat(400) + ")", "8:400");
    b.fails("(" + "x".repeat(401) + ")", 14, "", "");
    b.fails("(" + "x".repeat(401), 16, "", "");
    b.fails("<" + "00".repeat(401) + ">", 14, "", "");
    PaintTongue x = Bench.ran("0 1 999 {4 string cvs cvn pop} for");
    b.due("1,000 names", x.look(7), 1000);
    Bench.more(x, "/999 true /add");
    b.due("known names", x.look(10), 0);
    Bench.more(x, "/new");
    b.due("a 1,001st name", x.look(10), 14);
    b.due("names then", x.look(7), 1000);
    Bench.more(x, "(also) 1 def");
    b.due("a 1,001st name as a key", x.look(10), 14);
    b.due("is def's matter", Bench.blamed(x), "def");
  }
}
