/** The boundary cases that PART 4 names of the stack, numbers, objects, rows, strings, dicts, and telling. */
public final class OperatorEdgesTest {
  public static void main(String[] args) {
    Bench b = new Bench("OperatorEdgesTest");
    copies(b);
    copiesInto(b);
    indexes(b);
    rolls(b);
    marks(b);
    sums(b);
    quotients(b);
    signs(b);
    wholes(b);
    roots(b);
    shifts(b);
    logic(b);
    numbersOfStrings(b);
    comparing(b);
    kinds(b);
    texts(b);
    making(b);
    rowsFromMarks(b);
    dictsFromMarks(b);
    lengths(b);
    gets(b);
    puts(b);
    intervals(b);
    loads(b);
    searches(b);
    tokens(b);
    dicts(b);
    telling(b);
    fullTexts(b);
    b.close();
  }

  /** n below 0: RANGE; then fewer: UNDERFLOW. */
  private static void copies(Bench b) {
    b.gives("1 2 0 copy", "0:1 0:2");
    b.gives("0 copy", "");
    b.gives("1 2 2 copy", "0:1 0:2 0:1 0:2");
    b.fails("1 2 3 copy", Bench.UNDERFLOW, "copy", "0:1 0:2 0:3");
    b.fails("1 copy", Bench.UNDERFLOW, "copy", "0:1");
    b.fails("-1 copy", Bench.RANGE, "copy", "0:-1");
    b.fails("1 2 -1 copy", Bench.RANGE, "copy", "0:1 0:2 0:-1");
    b.fails("1 -2147483648 copy", Bench.RANGE, "copy", "0:1 0:-2147483648");
    b.fails("1 2147483647 copy", Bench.UNDERFLOW, "copy", "0:1 0:2147483647");
    b.errs("0 ".repeat(100) + "100 copy", 0);
    b.errs("0 ".repeat(101) + "101 copy", Bench.OVERFLOW);
  }

  /** Of one kind; shorter: RANGE; of DICTS RANGE, if it has PAIRS, or is for fewer. */
  private static void copiesInto(Bench b) {
    b.gives("[1 2] 2 array copy", "9:2");
    b.gives("[1 2] 3 array copy", "9:2");
    b.fails("[1 2 3] 2 array copy", Bench.RANGE, "copy", "9:3 9:2");
    b.gives("[] [] copy () () copy () 3 string copy 0 dict 0 dict copy", "9:0 8:0 8:0 10:0");
    b.prints("(abc) 3 string copy == (abc) (wxyz) dup 3 1 roll copy == ==", "(abc)\n(abc)\n(abcz)\n");
    b.fails("(abc) 2 string copy", Bench.RANGE, "copy", "8:3 8:2");
    b.prints("[1 2] [7 8 9] dup 3 1 roll copy == ==", "[ 1 2 ]\n[ 1 2 9 ]\n");
    b.prints("<< 1 2 3 4 >> 2 dict copy {= =} forall", "2\n1\n4\n3\n");
    b.gives("<< 1 2 3 4 >> 9 dict copy dup maxlength", "10:2 0:9");
    b.fails("<< 1 2 3 4 >> 1 dict copy", Bench.RANGE, "copy", "10:2 10:0");
    b.fails("0 dict << 1 2 >> copy", Bench.RANGE, "copy", "10:0 10:1");
    b.fails("<< 1 2 >> dup copy", Bench.RANGE, "copy", "10:1 10:1");
    b.gives("3 dict dup copy", "10:0");
    b.gives("9 dict dup 1 2 put 1 dict copy", "10:1");
    b.prints("<< 1 2 >> 1 dict dup 5 6 put dup 5 undef copy {= =} forall", "2\n1\n");
    // It is taken wholly first, whichever way it moves; the part is executable as the second one.
    b.prints("/s (abcdef) def s 1 4 getinterval s copy == s ==", "(bcde)\n(bcdeef)\n");
    b.prints("/s (abcdef) def s 0 4 getinterval s 2 4 getinterval copy == s ==", "(abcd)\n(ababcd)\n");
    b.prints("/r [1 2 3 4] def r 0 3 getinterval r 1 3 getinterval copy == r ==", "[ 1 2 3 ]\n[ 1 1 2 3 ]\n");
    b.gives("{1} [5 6] copy [1] {5 6} copy (a) (bc) cvx copy", "9:1 9:1x 8:1x");
    // Of one kind, but not composite.
    for (String pair : new String[] {"1.5 2.5", "true false", "null null", "mark mark", "/a /b", "/add load dup", "save dup"}) {
      b.errs(pair + " copy", Bench.TYPE);
    }
    // What is made behind the second one isn't touched.
    b.gives("/d << 1 10 2 20 3 30 >> def /e 3 dict def /r [4 5 6 7 8 9] def d e copy {} forall r aload pop",
        "0:1 0:10 0:2 0:20 0:3 0:30 0:4 0:5 0:6 0:7 0:8 0:9");
    b.gives("/a [1 2 3] def /r [4 5] def [7 8 9] a copy aload pop r aload pop", "0:7 0:8 0:9 0:4 0:5");
  }

  /** RANGE; UNDERFLOW. */
  private static void indexes(Bench b) {
    b.gives("7 0 index", "0:7 0:7");
    b.gives("7 8 9 2 index", "0:7 0:8 0:9 0:7");
    b.fails("7 8 9 3 index", Bench.UNDERFLOW, "index", "0:7 0:8 0:9 0:3");
    b.fails("0 index", Bench.UNDERFLOW, "index", "0:0");
    b.fails("7 -1 index", Bench.RANGE, "index", "0:7 0:-1");
    b.fails("7 -2147483648 index", Bench.RANGE, "index", "0:7 0:-2147483648");
    b.fails("7 2147483647 index", Bench.UNDERFLOW, "index", "0:7 0:2147483647");
    b.errs("0 ".repeat(199) + "198 index", 0);
    b.errs("0 ".repeat(199) + "199 index", Bench.UNDERFLOW);
  }

  /** Turned by j places upwards; n below 0: RANGE; UNDERFLOW. */
  private static void rolls(Bench b) {
    b.gives("1 2 3 3 1 roll", "0:3 0:1 0:2");
    b.gives("1 2 3 3 -1 roll", "0:2 0:3 0:1");
    b.gives("1 2 3 3 0 roll", "0:1 0:2 0:3");
    b.gives("1 2 3 3 3 roll", "0:1 0:2 0:3");
    b.gives("1 2 3 3 4 roll", "0:3 0:1 0:2");
    b.gives("1 2 3 3 -4 roll", "0:2 0:3 0:1");
    b.gives("1 2 3 3 2147483647 roll", "0:3 0:1 0:2");
    b.gives("1 2 3 3 -2147483648 roll", "0:3 0:1 0:2");
    b.gives("1 2 3 1 5 roll 2 1 roll", "0:1 0:3 0:2");
    b.gives("1 0 5 roll 0 -5 roll", "0:1");
    b.gives("0 0 roll", "");
    b.fails("1 2 3 4 0 roll", Bench.UNDERFLOW, "roll", "0:1 0:2 0:3 0:4 0:0");
    b.fails("1 1 1 roll 2 1 roll", Bench.UNDERFLOW, "roll", "0:1 0:2 0:1");
    b.fails("-1 0 roll", Bench.RANGE, "roll", "0:-1 0:0");
    b.fails("1 -2147483648 1 roll", Bench.RANGE, "roll", "0:1 0:-2147483648 0:1");
    b.fails("1 2147483647 1 roll", Bench.UNDERFLOW, "roll", "0:1 0:2147483647 0:1");
    PaintTongue x = Bench.ran("0 1 197 {} for 198 -1 roll");
    b.due("the lowest one comes up", x.top(0, 1) * 1000 + x.top(197, 1), 1);
  }

  /** Without a MARK: NOMARK; the latest one is meant. */
  private static void marks(Bench b) {
    for (String op : new String[] {"cleartomark", "counttomark", "]", ">>"}) {
      b.fails(op, Bench.NOMARK, op, "");
      b.fails("1 2 " + op, Bench.NOMARK, op, "0:1 0:2");
      b.fails("mark cleartomark 1 " + op, Bench.NOMARK, op, "0:1");
    }
    for (String mark : new String[] {"mark", "[", "<<"}) {
      b.gives("1 " + mark + " 2 " + mark + " 3 4 counttomark", "0:1 4:0 0:2 4:0 0:3 0:4 0:2");
      b.gives("1 " + mark + " 2 " + mark + " 3 4 cleartomark", "0:1 4:0 0:2");
      b.gives("1 " + mark + " 2 " + mark + " 3 4 ]", "0:1 4:0 0:2 9:2");
      b.gives("1 " + mark + " 2 " + mark + " 3 4 >>", "0:1 4:0 0:2 10:1");
      b.gives(mark + " counttomark " + mark + " cleartomark", "4:0 0:0");
      b.gives(mark + " ] " + mark + " >>", "9:0 10:0");
    }
    b.gives("clear 1 2 clear count 1 2 count", "0:0 0:1 0:2 0:3");
  }

  /** Of two INTEGERS an INTEGER, else FIXED. */
  private static void sums(Bench b) {
    b.gives("2147483646 1 add -2147483647 1 sub 65536 -32768 mul", "0:2147483647 0:-2147483648 0:-2147483648");
    b.fails("2147483647 1 add", Bench.RANGE, "add", "0:2147483647 0:1");
    b.fails("-2147483648 -1 add", Bench.RANGE, "add", "0:-2147483648 0:-1");
    b.fails("0 -2147483648 sub", Bench.RANGE, "sub", "0:0 0:-2147483648");
    b.fails("-2147483648 -2147483648 mul", Bench.RANGE, "mul", "0:-2147483648 0:-2147483648");
    b.fails("46341 46341 mul", Bench.RANGE, "mul", "0:46341 0:46341");
    b.gives("1 1.0 add 1.0 1 sub 2.0 2 mul 2 2.0 mul", "1:131072 1:0 1:262144 1:262144");
    b.gives("-32768.0 1 add 32767.0 1 sub 181.0 181.0 mul", "1:-2147418112 1:2147352576 1:2147024896");
    b.fails("32767.0 1 add", Bench.RANGE, "add", "1:2147418112 0:1");
    b.fails("-32768.0 .00002 sub", Bench.RANGE, "sub", "1:-2147483648 1:1");
    b.fails("182.0 182.0 mul", Bench.RANGE, "mul", "1:11927552 1:11927552");
    b.fails("-32768.0 -32768.0 mul", Bench.RANGE, "mul", "1:-2147483648 1:-2147483648");
    b.fails("32767 1 add 1.0 add", Bench.RANGE, "add", "0:32768 1:65536");
  }

  /** div of 0: RESULT; idiv and mod towards 0, with i's sign; idiv of the least by -1: RANGE. */
  private static void quotients(Bench b) {
    b.gives("7 2 div -7 2 div 7 -2 div 0 5 div", "1:229376 1:-229376 1:-229376 1:0");
    b.fails("1 0 div", Bench.RESULT, "div", "0:1 0:0");
    b.fails("0 0 div", Bench.RESULT, "div", "0:0 0:0");
    b.fails("1.5 0.0 div", Bench.RESULT, "div", "1:98304 1:0");
    b.fails("40000 0 div", Bench.RANGE, "div", "0:40000 0:0");
    b.fails("-32768.0 -1 div", Bench.RANGE, "div", "1:-2147483648 0:-1");
    b.gives("-32768.0 1 div -32767.0 -1 div", "1:-2147483648 1:2147418112");
    b.gives("7 2 idiv -7 2 idiv 7 -2 idiv -7 -2 idiv", "0:3 0:-3 0:-3 0:3");
    b.gives("7 2 mod -7 2 mod 7 -2 mod -7 -2 mod 6 2 mod -6 2 mod", "0:1 0:-1 0:1 0:-1 0:0 0:0");
    b.gives("-2147483648 1 idiv -2147483647 -1 idiv -2147483648 2 idiv", "0:-2147483648 0:2147483647 0:-1073741824");
    b.gives("-2147483648 -1 mod -2147483648 2147483647 mod 2147483647 -2147483648 mod", "0:0 0:-1 0:2147483647");
    b.fails("-2147483648 -1 idiv", Bench.RANGE, "idiv", "0:-2147483648 0:-1");
    for (String op : new String[] {"idiv", "mod"}) {
      b.fails("5 0 " + op, Bench.RESULT, op, "0:5 0:0");
      b.fails("-2147483648 0 " + op, Bench.RESULT, op, "0:-2147483648 0:0");
    }
  }

  /** neg abs of its kind; of the least: RANGE. */
  private static void signs(Bench b) {
    b.gives("5 neg -5 neg 0 neg 1.5 neg -1.5 neg", "0:-5 0:5 0:0 1:-98304 1:98304");
    b.gives("5 abs -5 abs 0 abs 1.5 abs -1.5 abs", "0:5 0:5 0:0 1:98304 1:98304");
    b.gives("2147483647 neg -2147483647 abs -32767.99998 neg", "0:-2147483647 0:2147483647 1:2147483647");
    for (String op : new String[] {"neg", "abs"}) {
      b.bound("? " + op, "-2147483647", "-2147483648", Bench.RANGE);
      b.bound("? " + op, "-32767.99998", "-32768.0", Bench.RANGE);
    }
  }

  /** Of an INTEGER itself, of a FIXED a FIXED; round halves upwards. */
  private static void wholes(Bench b) {
    for (String op : new String[] {"ceiling", "floor", "round", "truncate"}) {
      b.gives("2147483647 " + op + " -2147483648 " + op + " 0 " + op, "0:2147483647 0:-2147483648 0:0");
      b.gives("3.0 " + op + " -3.0 " + op + " 0.0 " + op + " -32768.0 " + op, "1:196608 1:-196608 1:0 1:-2147483648");
    }
    b.gives("2.5 ceiling -2.5 ceiling 2.00002 ceiling -2.99998 ceiling 32766.5 ceiling",
        "1:196608 1:-131072 1:196608 1:-131072 1:2147418112");
    b.bound("? ceiling", "32767.0", "32767.00002", Bench.RANGE);
    b.gives("2.99999 floor -2.00001 floor 32767.99999 floor -32767.5 floor", "1:131072 1:-196608 1:2147418112 1:-2147483648");
    b.gives("2.5 round 2.49999 round -2.5 round -2.50002 round -0.5 round .5 round",
        "1:196608 1:131072 1:-131072 1:-196608 1:0 1:65536");
    b.bound("? round", "32767.49999", "32767.5", Bench.RANGE);
    b.gives("2.9 truncate -2.9 truncate -.9 truncate 32767.9 truncate -32767.9 truncate",
        "1:131072 1:-131072 1:0 1:2147418112 1:-2147418112");
  }

  /** Of x as FIXED; RANGE, below 0, too. */
  private static void roots(Bench b) {
    b.gives("0 sqrt 0.0 sqrt 1 sqrt 4 sqrt 32767 sqrt 32767.99999 sqrt", "1:0 1:0 1:65536 1:131072 1:11863102 1:11863283");
    b.gives(".00002 sqrt .0001 sqrt 2.25 sqrt 2 sqrt 3 sqrt", "1:256 1:627 1:98304 1:92681 1:113511");
    b.bound("? sqrt", "0", "-1", Bench.RANGE);
    b.bound("? sqrt", "0.0", "-.00001", Bench.RANGE);
    b.bound("? sqrt", "32767", "32768", Bench.RANGE);
    b.errs("-2147483648 sqrt", Bench.RANGE);
  }

  /** 0s come in; by 32 and more 0. */
  private static void shifts(Bench b) {
    b.gives("1 0 bitshift 1 31 bitshift 1 32 bitshift 1 33 bitshift 3 31 bitshift", "0:1 0:-2147483648 0:0 0:0 0:-2147483648");
    b.gives("-1 -1 bitshift -1 -31 bitshift -1 -32 bitshift -1 -33 bitshift", "0:2147483647 0:1 0:0 0:0");
    b.gives("-1 2147483647 bitshift -1 -2147483648 bitshift -1 64 bitshift -1 -64 bitshift", "0:0 0:0 0:0 0:0");
    b.gives("-2147483648 -31 bitshift 5 2 bitshift 20 -2 bitshift -1 4 bitshift", "0:1 0:20 0:5 0:-16");
  }

  private static void logic(Bench b) {
    b.gives("12 10 and 12 10 or 12 10 xor 5 not -1 not", "0:8 0:14 0:6 0:-6 0:0");
    String[] truths = {"false false", "false true", "true false", "true true"};
    int[] and = {0, 0, 0, 1};
    int[] or = {0, 1, 1, 1};
    int[] xor = {0, 1, 1, 0};
    for (int i = 0; i < 4; i++) {
      b.gives(truths[i] + " and " + truths[i] + " or " + truths[i] + " xor", "2:" + and[i] + " 2:" + or[i] + " 2:" + xor[i]);
    }
    b.gives("true not false not", "2:0 2:1");
  }

  /** The NUMBER that a STRING is as a text's only token; none such: TYPE; RANGE. */
  private static void numbersOfStrings(Bench b) {
    b.gives("(12) cvi (  12\n ) cvi (-12.9) cvi (16#ff) cvi (+.5) cvi (2147483647) cvi (-2147483648) cvi",
        "0:12 0:12 0:-12 0:255 0:0 0:2147483647 0:-2147483648");
    b.gives("(12) cvr (\n.5 ) cvr (-32768) cvr (32767) cvr (-32768.0) cvr (2#11) cvr",
        "1:786432 1:32768 1:-2147483648 1:2147418112 1:-2147483648 1:196608");
    b.gives("1.9 cvi -1.9 cvi 32767.99999 cvi -32768.0 cvi 7 cvi 7 cvr 1.5 cvr", "0:1 0:-1 0:32767 0:-32768 0:7 1:458752 1:98304");
    for (String op : new String[] {"cvi", "cvr"}) {
      for (String s : new String[] {"", " ", "\n", "a", "1 2", "1 a", "12a", "1.2.3", "/1", "\\(1\\)",
          "<31>", "{1}", "1]", "1/", "--1", "1\\0002", "1\t", "16#", "2#2", "37#1", "+", "."}) {
        b.errs("(" + s + ") " + op, Bench.TYPE);
      }
      b.errs("(2147483648) " + op, Bench.RANGE);
      b.errs("(-2147483649) " + op, Bench.RANGE);
      b.errs("(32768.0) " + op, Bench.RANGE);
      b.errs("(-32768.00001) " + op, Bench.RANGE);
      b.errs("(16#100000000) " + op, Bench.RANGE);
      b.errs("( 2147483648 1) " + op, Bench.TYPE);
    }
    b.bound("(?) cvr", "32767", "32768", Bench.RANGE);
    b.bound("(?) cvr", "-32768", "-32769", Bench.RANGE);
    b.bound("? cvr", "32767", "32768", Bench.RANGE);
    b.gives("(32768) cvi", "0:32768");
  }

  /** gt ge lt le: two NUMBERS by their values, or two STRINGS (by bytes; a beginning is less). */
  private static void comparing(Bench b) {
    String[][] rising = {{"1", "2"}, {"-1", "0"}, {"-2147483648", "2147483647"}, {"1", "1.00002"}, {"-1.00001", "-1"}, {"32767.99999", "32768"},
        {"-32769", "-32768.0"}, {"40000", "50000"}, {"1.5", "65536"}, {"()", "(a)"}, {"(a)", "(ab)"}, {"(a)", "(b)"}, {"(az)", "(b)"},
        {"(\\177)", "(\\200)"}, {"(a)", "(\\377)"}, {"(\\000)", "(\\000\\000)"}};
    for (String[] pair : rising) {
      String up = pair[0] + " " + pair[1];
      String down = pair[1] + " " + pair[0];
      b.gives(up + " gt " + up + " ge " + up + " lt " + up + " le", "2:0 2:0 2:1 2:1");
      b.gives(down + " gt " + down + " ge " + down + " lt " + down + " le", "2:1 2:1 2:0 2:0");
    }
    // What is behind a part doesn't count.
    b.gives("(abz) 0 2 getinterval (aba) lt (aba) (abz) 0 2 getinterval lt (abz) 0 2 getinterval (ab) eq", "2:1 2:0 2:1");
    b.gives("(ab) (abz) 0 2 getinterval eq (abz) 0 2 getinterval /ab eq /abz (abz) 0 2 getinterval eq", "2:1 2:1 2:0");
    b.gives("(abz) 0 2 getinterval (abz) gt (abz) (abz) 0 2 getinterval gt", "2:0 2:1");
    for (String same : new String[] {"1 1", "1 1.0", "-2147483648 -2147483648", "() ()", "(ab) (ab)", "-32768 -32768.0"}) {
      b.gives(same + " gt " + same + " ge " + same + " lt " + same + " le", "2:0 2:1 2:0 2:1");
    }
  }

  /** What can be EXECUTABLE, types, and names of strings. */
  private static void kinds(Bench b) {
    b.gives("/a cvx /add load cvl (s) cvx [1] cvx", "5:1x 6:0 8:1x 9:1x");
    b.gives("1 cvx 1.5 cvx true cvx null cvx mark cvx save cvx 1 dict cvx", "0:1 1:98304 2:1 3:0 4:0 7:0 10:0");
    b.gives("/a cvx cvl /add load cvx {1} cvl (s) cvx cvl 1 cvl", "5:1 6:0x 9:1 8:1 0:1");
    b.gives("/add load cvl cvx 1 2 /add load cvl cvx exec", "6:0x 0:3");
    b.gives("/a xcheck /a cvx xcheck {} xcheck [] xcheck 1 xcheck /add load xcheck", "2:0 2:1 2:1 2:0 2:0 2:1");
    b.gives("1 type 1.0 type true type null type mark type /a type /add load type save type () type [] type 1 dict type",
        "5:11x 5:8x 5:11x 5:8x 5:8x 5:8x 5:12x 5:8x 5:10x 5:9x 5:8x");
    b.gives("(a) cvn (a) cvx cvn 30 string cvn", "5:1 5:1x 5:30");
    b.bound("? string cvn", "30", "31", Bench.RANGE);
    b.bound("? string cvn", "1", "0", Bench.RANGE);
    b.fails("() cvn", Bench.RANGE, "cvn", "8:0");
  }

  private static void says(Bench b, String object, String text) {
    b.prints(object + " =", text + "\n");
    b.bound(object + " ? string cvs", "" + text.length(), "" + (text.length() - 1), Bench.RANGE);
    b.prints("/s 40 string def 0 1 39 {s exch 42 put} for " + object + " s cvs dup length = print s print",
        text.length() + "\n" + text + text + "*".repeat(40 - text.length()));
  }

  /** TEXT of each kind; cvs: longer than the string: RANGE. */
  private static void texts(Bench b) {
    String[][] texts = {{"0", "0"}, {"7", "7"}, {"-7", "-7"}, {"10", "10"}, {"2147483647", "2147483647"}, {"-2147483648", "-2147483648"},
        {"1000000000", "1000000000"}, {"0.0", "0.0"}, {"1.0", "1.0"}, {"-1.0", "-1.0"}, {".5", "0.5"}, {"-.5", "-0.5"}, {"10.25", "10.25"},
        {"32767.99999", "32767.99998"}, {"-32768.0", "-32768.0"}, {".00002", "0.00001"}, {"-.00001", "-0.00001"}, {".1", "0.09999"},
        {"-.1", "-0.1"}, {"100.001", "100.00099"}, {".00097", "0.00096"}, {".0001", "0.00009"}, {"true", "true"}, {"false", "false"},
        {"/a", "a"}, {"/name cvx", "name"}, {"/add load", "add"}, {"(ab c)", "ab c"}, {"null", "--nostringval--"}, {"mark", "--nostringval--"},
        {"save", "--nostringval--"}, {"[1]", "--nostringval--"}, {"{1}", "--nostringval--"}, {"1 dict", "--nostringval--"}};
    for (String[] text : texts) {
      says(b, text[0], text[1]);
    }
    b.gives("() 0 string cvs () 3 string cvs", "8:0 8:0");
    b.prints("() =", "\n");
    b.prints("/s (abcdef) def s 2 3 getinterval s cvs == s ==", "(cde)\n(cdedef)\n");
    b.gives("1 3 string cvx cvs", "8:1x");
    b.bound("500 string ? string cvs", "500", "499", Bench.RANGE);
  }

  /** To 1000, 500, 200; below 0 or above: RANGE. */
  private static void making(Bench b) {
    b.bounds("? array", 0, 1000, Bench.RANGE);
    b.bounds("? string", 0, 500, Bench.RANGE);
    b.bounds("? dict", 0, 200, Bench.RANGE);
    for (String op : new String[] {"array", "string", "dict"}) {
      b.fails("-2147483648 " + op, Bench.RANGE, op, "0:-2147483648");
      b.fails("2147483647 " + op, Bench.RANGE, op, "0:2147483647");
    }
    b.gives("0 array 1000 array 0 string 500 string 0 dict 200 dict maxlength", "9:0 9:1000 8:0 8:500 10:0 0:200");
    b.gives("0 dict maxlength << 1 2 1 3 >> maxlength currentdict maxlength", "0:0 0:2 0:200");
  }

  private static void rowsFromMarks(Bench b) {
    b.gives("[ ] [ 1 ] [ [ 2 ] ]", "9:0 9:1 9:1");
    b.prints("[ 1 (a) /b null [ 2 ] ] ==", "[ 1 (a) /b -null- [ 2 ] ]\n");
    PaintTongue x = Bench.ran("[ " + "7 ".repeat(199) + "]");
    b.due("a row of all that may be there", x.top(0, 1) * 100 + x.element(0, 198, 1), 19907);
  }

  /** An odd number: RANGE, ahead of a KEY's TYPE; of one KEY the last value, at its first place; for n pairs. */
  private static void dictsFromMarks(Bench b) {
    b.gives("<< >> dup maxlength", "10:0 0:0");
    b.fails("<< 1 >>", Bench.RANGE, ">>", "4:0 0:1");
    b.fails("<< 1 2 3 >>", Bench.RANGE, ">>", "4:0 0:1 0:2 0:3");
    b.fails("<< null >>", Bench.RANGE, ">>", "4:0 3:0");
    b.fails("<< null 1 2 >>", Bench.RANGE, ">>", "4:0 3:0 0:1 0:2");
    b.fails("<< null 1 >>", Bench.TYPE, ">>", "4:0 3:0 0:1");
    b.fails("<< 1 2 1.5 3 >>", Bench.TYPE, ">>", "4:0 0:1 0:2 1:98304 0:3");
    b.gives("<< 1 null >>", "10:1");
    b.prints("<< /a 1 /b 2 /a 3 (b) 4 >> dup maxlength = dup length = {exch = =} forall", "4\n2\na\n3\nb\n4\n");
    PaintTongue x = Bench.ran("<< 1 1 198 {} for >>");
    b.due("of all that may be there", x.look(10) * 1000 + x.top(0, 1), 99);
  }

  /** Also of a NAME its bytes; of a DICT its PAIRS. */
  private static void lengths(Bench b) {
    b.gives("[] length [1] length () length (ab) length /abc length /abc cvx length 5 dict length << 1 2 >> length",
        "0:0 0:1 0:0 0:2 0:3 0:3 0:0 0:1");
    b.gives("/pop length /Encoding length /add cvx length", "0:3 0:8 0:3");
    b.gives("(abcdef) 2 3 getinterval cvx length {a b c} length", "0:3 0:3");
    b.gives("[1 2 3] 1 2 getinterval length (abc) 3 0 getinterval length currentdict length", "0:2 0:0 0:0");
  }

  /** RANGE; UNDEFINED. */
  private static void gets(Bench b) {
    b.bounds("[1 2 3] ? get", 0, 2, Bench.RANGE);
    b.bounds("(abc) ? get", 0, 2, Bench.RANGE);
    b.bounds("[1 2 3 4 5] 1 3 getinterval ? get", 0, 2, Bench.RANGE);
    b.bounds("(abcde) 1 3 getinterval ? get", 0, 2, Bench.RANGE);
    b.fails("[] 0 get", Bench.RANGE, "get", "9:0 0:0");
    b.fails("() 0 get", Bench.RANGE, "get", "8:0 0:0");
    b.fails("[1] -2147483648 get", Bench.RANGE, "get", "9:1 0:-2147483648");
    b.fails("(a) 2147483647 get", Bench.RANGE, "get", "8:1 0:2147483647");
    b.gives("[7 8 9] 0 get [7 8 9] 2 get (abc) 0 get (\\377) 0 get [1 2 3] 1 2 getinterval 0 get", "0:7 0:9 0:97 0:255 0:2");
    b.gives("<< 1 /a >> 1 get << true 2 >> true get", "5:1 0:2");
    b.fails("<< 1 2 >> 2 get", Bench.UNDEFINED, "get", "10:1 0:2");
    b.fails("0 dict /a get", Bench.UNDEFINED, "get", "10:0 5:1");
    b.fails("currentdict /add get", Bench.UNDEFINED, "get", "10:0 5:3");
  }

  /** i modulo 256; RANGE; DICTFULL. */
  private static void puts(Bench b) {
    b.bounds("[1 2 3] ? 9 put", 0, 2, Bench.RANGE);
    b.bounds("(abc) ? 9 put", 0, 2, Bench.RANGE);
    b.bounds("[1 2 3 4 5] 1 3 getinterval ? 9 put", 0, 2, Bench.RANGE);
    b.bounds("(abcde) 1 3 getinterval ? 9 put", 0, 2, Bench.RANGE);
    b.fails("[] 0 1 put", Bench.RANGE, "put", "9:0 0:0 0:1");
    String[][] bytes = {{"0", "0"}, {"255", "255"}, {"256", "0"}, {"257", "1"}, {"-1", "255"}, {"-256", "0"}, {"-257", "255"},
        {"2147483647", "255"}, {"-2147483648", "0"}, {"65601", "65"}};
    for (String[] pair : bytes) {
      b.gives("(abc) dup 1 " + pair[0] + " put dup 1 get exch dup 0 get exch 2 get", "0:" + pair[1] + " 0:97 0:99");
    }
    b.fails("1 dict dup 1 2 put dup 2 3 put", Bench.DICTFULL, "put", "10:1 10:1 0:2 0:3");
    b.gives("1 dict dup 1 2 put dup 1 3 put 1 get", "0:3");
    b.fails("0 dict 1 2 put", Bench.DICTFULL, "put", "10:0 0:1 0:2");
    b.prints("/r [1 2 3] def r 1 2 getinterval 0 /x put r ==", "[ 1 /x 3 ]\n");
  }

  /** The part from n on, j long; c' comes into c from n on: RANGE. */
  private static void intervals(Bench b) {
    for (String c : new String[] {"[1 2 3]", "(abc)"}) {
      b.bounds(c + " ? 0 getinterval", 0, 3, Bench.RANGE);
      b.bounds(c + " 0 ? getinterval", 0, 3, Bench.RANGE);
      b.bounds(c + " 1 ? getinterval", 0, 2, Bench.RANGE);
      b.bounds(c + " 3 ? getinterval", 0, 0, Bench.RANGE);
      b.errs(c + " 2147483647 1 getinterval", Bench.RANGE);
      b.errs(c + " 1 2147483647 getinterval", Bench.RANGE);
      b.errs(c + " 2147483647 2147483647 getinterval", Bench.RANGE);
      b.errs(c + " -2147483648 1 getinterval", Bench.RANGE);
      b.errs(c + " 0 2 getinterval 1 2 getinterval", Bench.RANGE);
      b.errs(c + " 1 2 getinterval 0 2 getinterval", 0);
      String part = c.startsWith("[") ? "[8 9]" : "(yz)";
      b.bounds(c + " ? " + part + " putinterval", 0, 1, Bench.RANGE);
      b.bounds(c + " ? " + part + " 0 0 getinterval putinterval", 0, 3, Bench.RANGE);
      b.errs(c + " 2147483647 " + part + " putinterval", Bench.RANGE);
      b.errs(c + " -2147483648 " + part + " putinterval", Bench.RANGE);
      b.errs(c + " 0 2 getinterval 1 " + part + " putinterval", Bench.RANGE);
    }
    b.prints("(abcdef) 1 4 getinterval 1 2 getinterval == [1 2 3 4] 2 2 getinterval ==", "(cd)\n[ 3 4 ]\n");
    b.prints("/s (abcdef) def s 1 (xy) putinterval s == s 4 (z\\000) 0 1 getinterval putinterval s ==", "(axydef)\n(axydzf)\n");
    b.prints("/s (abcdef) def s 2 s 0 4 getinterval putinterval s == s 0 s 2 4 getinterval putinterval s ==", "(ababcd)\n(abcdcd)\n");
    b.prints("/r [1 2 3 4] def r 1 r 0 3 getinterval putinterval r == r 0 r 1 3 getinterval putinterval r ==",
        "[ 1 1 2 3 ]\n[ 1 2 3 3 ]\n");
    b.gives("{1 2} 0 1 getinterval (ab) cvx 1 1 getinterval [1] 0 0 getinterval", "9:1x 8:1x 9:0");
  }

  /** aload gives all, astore takes as many: UNDERFLOW. */
  private static void loads(Bench b) {
    b.gives("[] aload [1 /a] aload", "9:0 0:1 5:1 9:2");
    b.gives("{1 a} aload", "0:1 5:1x 9:2x");
    b.gives("[] astore 1 2 3 2 array astore", "9:0 0:1 9:2");
    b.prints("1 2 3 2 array astore == =", "[ 2 3 ]\n1\n");
    b.fails("1 2 array astore", Bench.UNDERFLOW, "astore", "0:1 9:2");
    b.fails("1 array astore", Bench.UNDERFLOW, "astore", "9:1");
    b.prints("/r [1 2 3 4] def 8 9 r 1 2 getinterval astore pop r ==", "[ 1 8 9 4 ]\n");
    b.bound("/r ? array def r aload pop", "199", "201", Bench.OVERFLOW);
    b.errs("199 array aload", 0);
    b.errs("200 array aload", Bench.OVERFLOW);
    b.errs("1000 array aload", Bench.OVERFLOW);
    b.errs("0 ".repeat(199) + "199 array astore", 0);
    b.errs("0 ".repeat(199) + "200 array astore", Bench.UNDERFLOW);
  }

  /** At its first place, these being parts of s; or s false. */
  private static void searches(Bench b) {
    b.prints("(abcabc) (bc) search = == == ==", "true\n(a)\n(bc)\n(abc)\n");
    b.prints("(abc) (abc) search = == == ==", "true\n()\n(abc)\n()\n");
    b.prints("(abc) (c) search = == == ==", "true\n(ab)\n(c)\n()\n");
    b.prints("(aab) (ab) search = == == ==", "true\n(a)\n(ab)\n()\n");
    b.prints("(abc) () search = == == == () () search = == == ==", "true\n()\n()\n(abc)\ntrue\n()\n()\n()\n");
    b.gives("(abc) (abcd) search (abc) (x) search () (x) search", "8:3 2:0 8:3 2:0 8:0 2:0");
    b.prints("(abc) (abc) anchorsearch = == ==", "true\n(abc)\n()\n");
    b.prints("(abc) () anchorsearch = == == () () anchorsearch = == ==", "true\n()\n(abc)\ntrue\n()\n()\n");
    b.gives("(abc) (abcd) anchorsearch (abc) (b) anchorsearch () (x) anchorsearch", "8:3 2:0 8:3 2:0 8:0 2:0");
    b.prints("/s (abcd) def s (bc) search pop 0 120 put 0 121 put 0 122 put s ==", "(xycz)\n");
    b.prints("/s (abcd) def s (ab) anchorsearch pop 0 121 put 0 122 put s ==", "(ybzd)\n");
    b.gives("(abc) cvx (b) search (abc) (b) cvx search pop pop pop", "8:1x 8:1x 8:1x 2:1 8:1");
    // Nothing is found behind the string's end, nor looked for.
    b.gives("/t (z) def (abc) t search", "8:3 2:0");
    b.gives("(abc) 0 2 getinterval (c) search (abc) 0 2 getinterval (bc) search (abc) 0 2 getinterval (abc) anchorsearch", "8:2 2:0 8:2 2:0 8:2 2:0");
  }

  /** Its first token as an object, post the part behind it; or false. */
  private static void tokens(Bench b) {
    b.gives("() token ( \n ) token (%x) token", "2:0 2:0 2:0");
    b.gives("(1) token (1 ) token ( 1 2) token", "8:0 0:1 2:1 8:1 0:1 2:1 8:2 0:1 2:1");
    b.gives("(none x) token (/a) token ({a b} c) token", "8:2 5:4x 2:1 8:0 5:1 2:1 8:2 9:2x 2:1");
    b.gives("((a) b) token (<41>) token ([) token (>>) token", "8:2 8:1 2:1 8:0 8:1 2:1 8:0 5:1x 2:1 8:0 5:2x 2:1");
    b.gives("/v 5 def (//v) token (//add) token (1%2) token", "8:0 0:5 2:1 8:0 6:0x 2:1 8:2 0:1 2:1");
    b.prints("( ab cd ) dup token pop == == pop", "ab\n( cd )\n");
    b.gives("(1 2) cvx token", "8:2x 0:1 2:1");
    b.gives("(xx1 2xx) 2 3 getinterval token pop exch", "0:1 8:2");
    String[] bad = {"\\)", "}", ">", "\\(a", "{1", "<4", "/", "\\001"};
    for (String s : bad) {
      b.errs("(" + s + ") token", Bench.SYNTAX);
    }
    b.fails("(//none) token", Bench.UNDEFINED, "token", "8:6");
    b.fails("(99999999999) token", Bench.RANGE, "token", "8:11");
    b.fails("(1 2) 0 1 getinterval pop ({a) token", Bench.SYNTAX, "token", "8:2");
    // The string's end is the end: what is behind the part isn't read.
    b.fails("({1}) 0 2 getinterval token", Bench.SYNTAX, "token", "8:2");
    b.fails("(>>) 0 1 getinterval token", Bench.SYNTAX, "token", "8:1");
    b.fails("(<<) 0 1 getinterval token", Bench.SYNTAX, "token", "8:1");
    b.fails("(<41>) 0 3 getinterval token", Bench.SYNTAX, "token", "8:3");
    b.fails("(\\(a\\)) 0 2 getinterval token", Bench.SYNTAX, "token", "8:2");
    b.fails("(//true) 0 1 getinterval token", Bench.SYNTAX, "token", "8:1");
    b.gives("(123) 0 2 getinterval token (16#ff) 0 2 getinterval cvi (1.5) 0 1 getinterval cvi", "8:0 0:12 2:1 0:16 0:1");
    PaintTongue x = Bench.ran("((ab) c) token pop exch pop dup 0 120 put ==");
    b.due("a string that token makes has its own bytes", Bench.printed(x), "(xb)\n");
  }

  /** def, load, store, known, where, undef. */
  private static void dicts(Bench b) {
    b.bound("? dict begin /a 1 def", "1", "0", Bench.DICTFULL);
    b.bound("? dict begin /a 1 store", "1", "0", Bench.DICTFULL);
    b.gives("/a 1 def 0 dict begin /a 2 store a end a", "0:2 0:2");
    b.gives("1 dict begin /a 1 def /a 2 def a end", "0:2");
    b.fails("/none load", Bench.UNDEFINED, "load", "5:4");
    b.fails("7 load", Bench.UNDEFINED, "load", "0:7");
    b.gives("/a 1 def /a load 7 8 def 7 load true 9 def true load /add load /true load", "0:1 0:8 0:9 6:0x 2:1");
    b.prints("/a 1 def 1 dict begin /a 2 def a = /a load = /a where {/a get =} if end a =", "2\n2\n2\n1\n");
    b.prints("/add where = /none where = /true 5 def /true where = pop true =", "false\nfalse\ntrue\n5\n");
    b.prints("/sub 5 store currentdict /sub known =", "true\n");
    b.gives("1 dict dup 5 known exch dup 5 6 put 5 known currentdict /add known", "2:0 2:1 2:0");
    b.gives("/d << 1 10 2 20 3 30 4 40 5 50 6 60 >> def /r [7 8 9] def d 1 undef d {} forall r aload pop",
        "0:2 0:20 0:3 0:30 0:4 0:40 0:5 0:50 0:6 0:60 0:7 0:8 0:9");
    b.gives("/d << 1 10 2 20 3 30 4 40 5 50 6 60 >> def /r [7 8 9] def d 3 undef d 6 undef d 9 90 put d {} forall r aload pop",
        "0:1 0:10 0:2 0:20 0:4 0:40 0:5 0:50 0:9 0:90 0:7 0:8 0:9");
    b.gives("1 dict dup 5 undef dup 5 6 put dup 5 undef length currentdict /add undef 1 2 add", "0:0 0:3");
    b.prints("currentdict 1 dict dup begin currentdict eq = end currentdict eq =", "true\ntrue\n");
    b.fails("/a 1 def currentdict /a undef a", Bench.UNDEFINED, "a", "");
  }

  /** The first 4,000 bytes are kept, all are counted. */
  private static void telling(Bench b) {
    b.prints("() print (a) print ( b\\n) print", "a b\n");
    b.prints("1 = (x) = [1 2] == (x) ==", "1\nx\n[ 1 2 ]\n(x)\n");
    PaintTongue x = Bench.ran("500 string =");
    b.due("a string of 500 and 10", x.look(8), 501);
    b.due("its end", x.out(500), '\n');
    b.fails("1 2 = pop = ", Bench.UNDERFLOW, "=", "");
  }

  /** FULL TEXT; a ROW within five others is ... ; the first 300 bytes alone. */
  private static void fullTexts(Bench b) {
    b.prints("/a == /a cvx == (a\\)b) == /add load == null == mark == save == 1 dict == true == -1.5 == [] == {} ==",
        "/a\na\n(a)b)\n--add--\n-null-\n-mark-\n-save-\n-dict-\ntrue\n-1.5\n[ ]\n{ }\n");
    b.prints("[/a /a cvx] == {/a a {b} (s)} ==", "[ /a a ]\n{ /a a { b } (s) }\n");
    b.prints("[[[[[1]]]]] == [[[[[[1]]]]]] == {{{{{{1}}}}}} ==", "[ [ [ [ [ 1 ] ] ] ] ]\n[ [ [ [ [ ... ] ] ] ] ]\n{ { { { { ... } } } } }\n");
    b.prints("[[[[[[] 2] 3]]]] ==", "[ [ [ [ [ ... 2 ] 3 ] ] ] ]\n");
    b.prints("/r [1 2] def r 0 r put r ==", "[ [ [ [ [ ... 2 ] 2 ] 2 ] 2 ] 2 ]\n");
    for (int n = 297; n <= 300; n++) {
      PaintTongue x = Bench.ran(n + " string dup 0 1 " + (n - 1) + " {exch dup 3 -1 roll 120 put} for pop ==");
      int due = Math.min(300, n + 2);
      b.due("bytes of a string of " + n, x.look(8), due + 1);
      b.due("its last one", x.out(due - 1), n <= 298 ? ')' : 'x');
      b.due("then 10", x.out(due), '\n');
    }
    PaintTongue x = Bench.ran("[ 75 {100} repeat ] == [ 74 {100} repeat ] ==");
    b.due("[ and 74 times four and two more, cut and not", x.look(8), 301 + 300);
    b.due("the cut one's last", x.out(299), '0');
    b.due("the whole one's last", x.out(599), ']');
    x = Bench.ran("/r 100 array def 0 1 99 {r exch r put} for r ==");
    b.due("a row of itself", x.look(8), 301);
  }
}
