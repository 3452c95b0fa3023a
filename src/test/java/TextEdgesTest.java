/** The boundary cases that PART 2 names: bytes, tokens, forms of numbers, strings, procedures, their limits. */
public final class TextEdgesTest {
  private static final String THIRTY = "abcdefghijabcdefghijabcdefghij";

  public static void main(String[] args) {
    Bench b = new Bench("TextEdgesTest");
    bytes(b);
    partings(b);
    names(b);
    integers(b);
    fixed(b);
    radix(b);
    strings(b);
    hexStrings(b);
    procedures(b);
    syntax(b);
    besideDigits(b);
    limits(b);
    firstErrors(b);
    nothingMade(b);
    executed(b);
    b.close();
  }

  /** Bytes 10, 32 .. 126; in ( ) and behind % any others, too; else SYNTAX. */
  private static void bytes(Bench b) {
    for (int c = 0; c < 256; c++) {
      char byteOf = (char) c;
      boolean blank = c == 10 || c == 32;
      boolean fine = blank || (c > 32 && c < 127);
      String alone = "1 " + byteOf;
      PaintTongue x = Bench.ran(alone);
      if (!fine) {
        b.due("byte " + c + " by itself", x.look(10), Bench.SYNTAX);
        b.due("byte " + c + " behind a token that was taken", Bench.operands(Bench.ran("1" + byteOf)), "0:1");
        b.due("byte " + c + " in a procedure", Bench.ran("{" + byteOf + "}").look(10), Bench.SYNTAX);
        b.due("byte " + c + " in a hexadecimal string", Bench.ran("<" + byteOf + ">").look(10), Bench.SYNTAX);
        b.due("byte " + c + " behind a slash", Bench.ran("/" + byteOf).look(10), Bench.SYNTAX);
      } else if (blank) {
        b.due("byte " + c + " is no token", x.look(11), 1);
        b.due("byte " + c + " parts tokens", Bench.operands(Bench.ran("1" + byteOf + "2")), "0:1 0:2");
      } else if ("()<>[]{}/%".indexOf(byteOf) < 0) {
        b.due("byte " + c + " is regular", Bench.operands(Bench.ran("/x" + byteOf)), "5:2");
      }
      if (c != '(' && c != ')' && c != '\\') {
        x = Bench.ran("(" + byteOf + ")");
        b.due("byte " + c + " in ( )", x.element(0, 0, 1), c);
      }
      x = Bench.ran("1%" + byteOf + "2\n3");
      b.due("byte " + c + " behind %", Bench.operands(x), c == 10 ? "0:1 0:2 0:3" : "0:1 0:3");
    }
  }

  /** What parts and ends tokens. */
  private static void partings(Bench b) {
    b.gives("1(a)2<41>3{4}5/a/b[6]", "0:1 8:1 0:2 8:1 0:3 9:1x 0:5 5:1 5:1 9:1");
    b.gives("<<1 2>>[3]", "10:1 9:1");
    b.gives("<</a<41>>>", "10:1");
    b.gives("1%2\n%3\n\n  4%", "0:1 0:4");
    b.gives("", "");
    b.gives("%", "");
    b.gives(" \n \n", "");
    b.fails("1)", Bench.SYNTAX, "", "0:1");
    b.fails("1>", Bench.SYNTAX, "", "0:1");
    b.fails("1}", Bench.SYNTAX, "", "0:1");
    b.fails("mark>", Bench.SYNTAX, "", "4:0");
    b.fails("> >", Bench.SYNTAX, "", "");
    b.fails("< <41>>", Bench.SYNTAX, "", "");
    b.fails("<41>>", Bench.SYNTAX, "", "8:1");
    b.fails("<<>>>", Bench.SYNTAX, "", "10:0");
    b.gives("{[]<<>>}", "9:4x");
    b.due("a text without a token takes no step", Bench.ran("  %x").look(11), 0);
  }

  /** / and REGULAR ones, // and such; more than 30 bytes: LIMIT. */
  private static void names(Bench b) {
    b.gives("/" + THIRTY, "5:30");
    b.gives("/" + THIRTY + " 7 def //" + THIRTY + " " + THIRTY, "0:7 0:7");
    b.gives("/1 /1.5 /- /16#f /# /a.b", "5:1 5:3 5:1 5:4 5:1 5:3");
    for (String text : new String[] {"/?", "//?", "?", "{/?}", "{?}", "{//?}", "(/?) token"}) {
      String at = text.contains("//") || text.equals("?") ? "/" + THIRTY + " 1 def " : "";
      b.bound(at + text, THIRTY, THIRTY + "k", Bench.LIMIT);
    }
    b.fails("/" + THIRTY + "k", Bench.LIMIT, "", "");
    b.fails("//none", Bench.UNDEFINED, "", "");
    b.fails("{//none}", Bench.UNDEFINED, "", "");
    b.gives("/n 1 def {//n n} /n 2 def exec", "0:1 0:2");
    b.gives("/n /m cvx def /m 5 def //n {//n} 0 get", "0:5 5:1x");
    b.gives("//true //null {//false //add} length", "2:1 3:0 0:2");
    b.fails("/n /m cvx def //n", Bench.UNDEFINED, "m", "");
    for (String text : new String[] {"/", "//", "/ ", "// a", "/(a)", "//(a)", "/[", "///a", "/{a}", "/%a", "//%a", "/<41>", "/>"}) {
      b.errs(text, Bench.SYNTAX);
    }
  }

  private static void isName(Bench b, String name) {
    b.fails(name, Bench.UNDEFINED, name, "");
  }

  /** Perhaps + or -, digits. */
  private static void integers(Bench b) {
    b.gives("0 -0 +0 2147483647 -2147483648 +2147483647", "0:0 0:0 0:0 0:2147483647 0:-2147483648 0:2147483647");
    b.bound("?", "2147483647", "2147483648", Bench.RANGE);
    b.bound("?", "-2147483648", "-2147483649", Bench.RANGE);
    b.bound("?", "+2147483647", "+2147483648", Bench.RANGE);
    b.gives("0000000000000000000000000000000000000000000000000000000000000017", "0:17");
    b.gives("-0000000000000000000000000000000002147483648", "0:-2147483648");
    b.errs("4294967296", Bench.RANGE);
    b.errs("18446744073709551616", Bench.RANGE);
    b.errs("1" + "0".repeat(500), Bench.RANGE);
    b.errs("-1" + "0".repeat(500), Bench.RANGE);
    for (String name : "+ - +- -+ ++1 --1 +-1 1+ 1- 1-1 1e5 0x1 1,2 '1 a1 1a".split(" ")) {
      isName(b, name);
    }
  }

  /** Such with one point ahead of, among or behind them, a digit at least. */
  private static void fixed(Bench b) {
    b.gives(".5 5. 0.5 -.5 +.5 -5. +5. 00.50", "1:32768 1:327680 1:32768 1:-32768 1:32768 1:-327680 1:327680 1:32768");
    b.gives("-.1 .1 -.00001 .00001 -0.0", "1:-6554 1:6553 1:-1 1:0 1:0");
    b.gives("0.0000152587890625 0.00001525878906249999999999 -0.0000152587890625 -0.000015258789062500000000001", "1:1 1:0 1:-1 1:-2");
    b.gives("-0." + "0".repeat(60) + "1 0." + "0".repeat(60) + "1", "1:-1 1:0");
    b.bound("?", "32767.99999", "32768.0", Bench.RANGE);
    b.bound("?", "32767." + "9".repeat(60), "32768.", Bench.RANGE);
    b.bound("?", "-32768.0", "-32768.00001", Bench.RANGE);
    b.bound("?", "-32768.", "-32768." + "0".repeat(60) + "1", Bench.RANGE);
    b.gives("-32768.000 -32767.99999", "1:-2147483648 1:-2147483648");
    b.gives("-32767.99998", "1:-2147483647");
    b.errs("99999999999999999999.5", Bench.RANGE);
    b.errs("-99999999999999999999.5", Bench.RANGE);
    for (String name : ". +. -. .. 1.2.3 1..2 ..5 5.. 1.e5 .-5 -.-5 1.+ .5a 5.a #.5".split(" ")) {
      isName(b, name);
    }
  }

  /** A number 2 to 36 of one or two digits, #, then at least one digit of that base and no others: 32 bits, more: RANGE. */
  private static void radix(Bench b) {
    b.gives("2#101 02#101 36#z 36#Z 10#99 09#8 16#aF 16#7fffffff 16#80000000", "0:5 0:5 0:35 0:35 0:99 0:8 0:175 0:2147483647 0:-2147483648");
    b.bound("?", "16#ffffffff", "16#100000000", Bench.RANGE);
    b.bound("?", "2#" + "1".repeat(32), "2#1" + "0".repeat(32), Bench.RANGE);
    b.bound("?", "36#1z141z3", "36#1z141z4", Bench.RANGE);
    b.bound("?", "10#4294967295", "10#4294967296", Bench.RANGE);
    b.gives("36#1z141z3 10#4294967295 2#" + "0".repeat(90) + "11", "0:-1 0:-1 0:3");
    b.errs("36#" + "z".repeat(200), Bench.RANGE);
    for (int base = 2; base <= 36; base++) {
      String digits = "0123456789abcdefghijklmnopqrstuvwxyz{";
      b.gives(base + "#" + digits.charAt(base - 1), "0:" + (base - 1));
      if (base < 36) {
        isName(b, base + "#" + digits.charAt(base));
      }
    }
    for (String name : "0#0 1#0 37#1 99#1 002#1 100#1 16# 2#2 16#g 16#1.0 16#-1 16#+1 -16#1 +16#1 #1 16##1 1#6#1 2#1#1 a#1 16#1_".split(" ")) {
      isName(b, name);
    }
  }

  private static void isString(Bench b, String text, String bytes) {
    PaintTongue x = Bench.ran(text);
    b.due("error of " + text, x.look(10), 0);
    b.due("length of " + text, x.top(0, 1), bytes.length());
    for (int i = 0; i < bytes.length(); i++) {
      b.due("byte " + i + " of " + text, x.element(0, i, 1), bytes.charAt(i));
    }
  }

  /** ( up to its ): pairs within, and what stands behind a backslash. */
  private static void strings(Bench b) {
    isString(b, "()", "");
    isString(b, "(())", "()");
    isString(b, "(a(b)c(d(e)))", "a(b)c(d(e))");
    isString(b, "(\\()", "(");
    isString(b, "(\\))", ")");
    isString(b, "(\\(\\)(\\)))", "()())");
    isString(b, "(\\n\\t\\\\\\q\\ \\%)", "\n\t\\q %");
    isString(b, "(a\\\nb\nc)", "ab\nc");
    isString(b, "(%{<\u0001\u00ff\t)", "%{<\u0001\u00ff\t");
    isString(b, "(\\0\\00\\000\\0000)", "\u0000\u0000\u0000\u00000");
    isString(b, "(\\1a\\12a\\123a\\1234)", "\u0001a\na" + "Sa" + "S4");
    isString(b, "(\\377\\400\\401\\777)", "\u00ff\u0000\u0001\u00ff");
    isString(b, "(\\8\\9\\18\\78)", "89\u00018\u00078");
    for (String text : new String[] {"(", "(a", "((a)", "(a\\)", "(\\", "(\\1", "(a\\\n", "(()"}) {
      b.errs(text, Bench.SYNTAX);
    }
    b.fails("(a))", Bench.SYNTAX, "", "8:1");
  }

  /** < up to >: pairs, blanks and 10s passed, an odd one at last with a 0. */
  private static void hexStrings(Bench b) {
    isString(b, "<>", "");
    isString(b, "< \n >", "");
    isString(b, "<0>", "\u0000");
    isString(b, "<f>", "\u00f0");
    isString(b, "<4 1\n42>", "AB");
    isString(b, "<414>", "A@");
    isString(b, "<4 1 4 \n>", "A@");
    isString(b, "<09afAFff>", "\t\u00af\u00af\u00ff");
    for (String text : new String[] {"<", "<4", "<41 ", "<g>", "<G>", "<4/1>", "<:>", "<@>", "<`>", "<41%\n>", "<(a)>", "<{>", "<.>"}) {
      b.errs(text, Bench.SYNTAX);
    }
  }

  /** { up to its }. */
  private static void procedures(Bench b) {
    b.gives("{} { } {%x\n}", "9:0x 9:0x 9:0x");
    b.gives("{{}{{}}}", "9:2x");
    b.prints("{1{2}(a)<41>/b[c]<<>>//true .5 16#f} ==", "{ 1 { 2 } (a) (A) /b [ c ] << >> true 0.5 15 }\n");
    for (String text : new String[] {"{", "{1", "{{}", "{1 {2}", "{(}", "{<}", "{/}", "{)}", "{>}", "{1}}", "{<41>>}"}) {
      b.errs(text, Bench.SYNTAX);
    }
  }

  /** Where SYNTAX is met the text goes; what was ahead of it is done. */
  private static void syntax(Bench b) {
    b.fails("1 2 ) 3", Bench.SYNTAX, "", "0:1 0:2");
    PaintTongue x = Bench.ran("1 ) 3");
    b.due("nothing under way", x.look(2), 0);
    b.due("no more is done", x.run(20000), 2);
    b.due("steps with the one that failed", x.look(11), 2);
    b.fails("/a 1 def a} b", Bench.SYNTAX, "", "0:1");
    // A text ends where it ends, whatever bytes an earlier one had behind that place.
    for (String longer : new String[] {"<<", ">>", "()", "<>", "//", "{}", "/a", "7%", "12"}) {
      x = Bench.ran(" " + longer + " pop pop");
      Bench.more(x, "clear");
      Bench.more(x, " " + longer.charAt(0));
      boolean number = longer.charAt(0) == '7' || longer.charAt(0) == '1';
      b.due("a text of " + longer.charAt(0) + " behind one of " + longer, x.run(0), number ? 0 : 2);
      b.due("its error", number ? x.top(0, 1) : x.look(10), number ? longer.charAt(0) - '0' : Bench.SYNTAX);
    }
  }

  /** A byte next to the digits is none. */
  private static void besideDigits(Bench b) {
    for (String name : new String[] {":#1", "1:#1", ":1#1", "1:", ":", "1;", "1.:", "16#:", "2#2", "9#9", "11#b", "36#1:"}) {
      isName(b, name);
      b.errs("(" + name + ") cvi", Bench.TYPE);
    }
    // The last of the digits that count no more may be 0.
    b.gives("-.500000000000000010 -.50000000000000001 -.5000000000000000100 -.5000000000000000", "1:-32769 1:-32769 1:-32769 1:-32768");
  }

  /** A 21st { within one another, the 401st object, a STRING of more than 400 bytes (at its end): LIMIT. */
  private static void limits(Bench b) {
    b.errs("{".repeat(20) + "1" + "}".repeat(20), 0);
    b.errs("{".repeat(21) + "1" + "}".repeat(21), Bench.LIMIT);
    b.errs("{".repeat(21), Bench.LIMIT);
    b.errs("{".repeat(20), Bench.SYNTAX);
    b.errs("{{{}{}}{{}}{}" + "{}".repeat(30) + "}", 0);
    b.gives("{" + "1 ".repeat(400) + "}", "9:400x");
    b.errs("{" + "1 ".repeat(401) + "}", Bench.LIMIT);
    b.errs("{" + "1 ".repeat(401), Bench.LIMIT);
    b.errs("{" + "1 ".repeat(400), Bench.SYNTAX);
    b.gives("{{" + "1 ".repeat(400) + "}{" + "/a ".repeat(400) + "}" + "2 ".repeat(398) + "}", "9:400x");
    // Each of those that are open at once may have as many.
    b.gives("{" + "1 ".repeat(399) + "{" + "2 ".repeat(399) + "{" + "3 ".repeat(400) + "}}} dup length exch 399 get dup length exch 399 get length",
        "0:400 0:400 0:400");
    for (String last : new String[] {"()", "<>", "/a", "a", "{}", "[", "<<", "//true", "1.5"}) {
      b.errs("{" + "1 ".repeat(399) + last + "}", 0);
      b.errs("{" + "1 ".repeat(400) + last + "}", Bench.LIMIT);
      b.errs("{{" + "1 ".repeat(400) + last + "}}", Bench.LIMIT);
    }
    b.gives("(" + "x".repeat(400) + ")", "8:400");
    b.gives("(" + "\\1".repeat(400) + "\\\n\\\n)", "8:400");
    b.errs("(" + "x".repeat(401) + ")", Bench.LIMIT);
    b.errs("(" + "()".repeat(201) + ")", Bench.LIMIT);
    b.errs("(" + "()".repeat(200) + ")", 0);
    b.gives("(y" + "x".repeat(398) + "z) dup 0 get exch dup 398 get exch 399 get", "0:121 0:120 0:122");
    b.gives("<42" + "41".repeat(398) + "43> dup 0 get exch dup 398 get exch 399 get", "0:66 0:65 0:67");
    b.gives("<" + "41".repeat(400) + ">", "8:400");
    b.gives("<" + "41".repeat(399) + "4 >", "8:400");
    b.errs("<" + "41".repeat(400) + "4>", Bench.LIMIT);
    b.errs("<" + "41".repeat(401) + ">", Bench.LIMIT);
    b.errs("{(" + "x".repeat(401) + ")}", Bench.LIMIT);
    // At its end: without one, or with another byte, it is SYNTAX.
    b.errs("(" + "x".repeat(401), Bench.SYNTAX);
    b.errs("<" + "41".repeat(401), Bench.SYNTAX);
    b.errs("<" + "41".repeat(401) + "x>", Bench.SYNTAX);
    stringsOfFiveHundred(b);
  }

  /** A STRING that is executed, or of which a token is taken, is read like a text. */
  private static void stringsOfFiveHundred(Bench b) {
    String make = "/s 500 string def 0 1 499 {s exch 120 put} for s 0 40 put s ? 41 put s dup ? 1 add 500 ? 1 add sub getinterval "
        + "0 1 2 index length 1 sub {1 index exch 32 put} for pop ";
    b.bound(make + "token", "401", "402", Bench.LIMIT);
    b.bound(make + "cvx exec", "401", "402", Bench.LIMIT);
  }

  /** Of a token the first error along it counts. */
  private static void firstErrors(Bench b) {
    b.errs("{//none " + THIRTY + "k}", Bench.UNDEFINED);
    b.errs("{" + THIRTY + "k //none}", Bench.LIMIT);
    b.errs("{99999999999 //none}", Bench.RANGE);
    b.errs("{//none 99999999999}", Bench.UNDEFINED);
    b.errs("{99999999999 )", Bench.RANGE);
    b.errs("{) 99999999999}", Bench.SYNTAX);
    b.errs("{(" + "x".repeat(401) + ") //none}", Bench.LIMIT);
    b.errs("{//none (" + "x".repeat(401) + ")}", Bench.UNDEFINED);
    b.errs("{{//none", Bench.UNDEFINED);
    // Bodies are made at their ends: there is no room for the string, then none is asked for.
    String full = "11 {1000 array pop} repeat 984 array pop ";
    b.errs(full + "{() //none}", Bench.VM);
    b.errs(full + "{//none ()}", Bench.UNDEFINED);
    b.errs(full + "{99999999999}", Bench.RANGE);
    b.errs(full + "{1", Bench.SYNTAX);
    b.errs(full + "{1}", Bench.VM);
    b.errs(full + "{{}", Bench.VM);
    b.errs(full + "(" + "x".repeat(401) + ")", Bench.LIMIT);
  }

  /** It makes nothing then, but NAMES. */
  private static void nothingMade(Bench b) {
    String[] texts = {"{(abc) [1 2] {x} /y //none}", "{(abc) {x} /y", "{(abc) {x y} )", "{(abc) {x} /y 99999999999}",
        "{(abc) {x} /y " + THIRTY + "k}", "{(abc) {x} /y (" + "z".repeat(401) + ")}", "{(abc) {x} /y " + "1 ".repeat(401) + "}"};
    int[] met = {3, 2, 2, 2, 2, 2, 2};
    for (int i = 0; i < texts.length; i++) {
      PaintTongue x = Bench.ran(texts[i]);
      b.due("run of " + texts[i], x.run(0), 2);
      b.due("room of " + texts[i], x.look(4), 0);
      b.due("bodies of " + texts[i], x.look(5), 0);
      b.due("names of " + texts[i], x.look(7), met[i]);
      b.due("operands of " + texts[i], x.look(0), 0);
      b.due("blamed by " + texts[i], x.blamed(0), -1);
      b.due("what comes next", Bench.more(x, "[1 (x) 2]"), 0);
      b.due("its room", x.look(4), 6);
    }
    PaintTongue x = Bench.ran("{/a /b (");
    b.due("names met in a token without an end", x.look(7), 2);
    x = Bench.ran("(/p {/q 99999999999}) token");
    b.due("names of token's own", x.look(7), 1);
    Bench.more(x, "pop pop token");
    b.due("and of the rest, with an error", x.look(7) * 100 + x.look(10), 200 + Bench.RANGE);
    b.due("the string stays", Bench.operands(x), "8:17");
  }

  /** A STRING that is executed goes with its error, and so does all up to a STOPPED. */
  private static void executed(Bench b) {
    PaintTongue x = Bench.ran("{(1 2 \\) 3) cvx exec 4} stopped 5");
    b.due("what is left", Bench.operands(x), "0:1 0:2 2:1 0:5");
    b.due("its error", x.look(10), Bench.SYNTAX);
    b.due("it blames nothing", x.blamed(0), -1);
    x = Bench.ran("{(/met1 /met2 \\() cvx exec} stopped");
    b.due("names that were met in it are met", x.look(7), 2);
    b.gives("() cvx exec (  ) cvx exec (%x) cvx exec 1", "0:1");
    b.gives("(1) cvx exec ( 1 2 %) cvx exec", "0:1 0:1 0:2");
    x = Bench.ran("({1) cvx {exec} stopped ([1 2) cvx exec ]");
    b.due("a procedure's end isn't sought beyond its string", Bench.operands(x), "2:1 9:2");
    b.due("its error", x.look(10), Bench.SYNTAX);
  }
}
