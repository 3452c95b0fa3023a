/** The boundary cases that PART 1 names: numbers, room, dicts, keys, what is the same. */
public final class ObjectEdgesTest {
  private static final String FONT = "<< /FontMatrix [0 0 0 0 0 0] /BuildChar {pop pop} >> ";
  private static final String THIRTY = "abcdefghijabcdefghijabcdefghij";
  // 11,015 of the room, of which 4 are the procedure's.
  private static final String ELEVEN_ROWS = "11 {1000 array pop} repeat ";
  private static final int LEFT_BY_ROWS = 12000 - 11 * 1001 - 4;

  public static void main(String[] args) {
    Bench b = new Bench("ObjectEdgesTest");
    numbers(b);
    rounding(b);
    numbersAsFixed(b);
    roomTaken(b);
    roomFull(b);
    bodiesFull(b);
    fresh(b);
    pairs(b);
    kindsOfKeys(b);
    stringsAsKeys(b);
    manyNames(b);
    keysFirst(b);
    same(b);
    b.close();
  }

  /** INTEGERS have 32 bits, FIXED are v / 65536, v of 32 bits: what is beyond is RANGE. */
  private static void numbers(Bench b) {
    b.bound("2147483646 ? add", "1", "2", Bench.RANGE);
    b.bound("-2147483647 ? add", "-1", "-2", Bench.RANGE);
    b.bound("-2147483647 ? sub", "1", "2", Bench.RANGE);
    b.bound("2147483646 ? sub", "-1", "-2", Bench.RANGE);
    b.bound("? 65536 mul", "32767", "32768", Bench.RANGE);
    b.bound("? 65536 mul", "-32768", "-32769", Bench.RANGE);
    b.gives("-32768 65536 mul 46340 46340 mul", "0:-2147483648 0:2147395600");
    b.bound("32767.5 ? add", ".49999", ".5", Bench.RANGE);
    b.bound("-32767.5 ? sub", ".5", ".50002", Bench.RANGE);
    b.bound("16384.0 ? mul", "1.99999", "2.0", Bench.RANGE);
    b.bound("16384.0 ? mul", "-2.0", "-2.00002", Bench.RANGE);
    b.bound("1 ? div", ".00005", ".00004", Bench.RANGE);
    b.bound("? .5 div", "16383.99999", "16384", Bench.RANGE);
    b.bound("? .5 div", "-16384", "-16384.00002", Bench.RANGE);
    b.gives("32767.5 .49999 add -32768.0 0 add", "1:2147483647 1:-2147483648");
  }

  /** What is worked out in FIXED is the greatest FIXED not above the exact value, of a sum of products that of the whole. */
  private static void rounding(Bench b) {
    b.gives("1 3 div -1 3 div 2 3 div -2 3 div", "1:21845 1:-21846 1:43690 1:-43691");
    b.gives(".00002 .5 mul -.00001 .5 mul .00002 -.5 mul", "1:0 1:-1 1:-1");
    // Two products of half a part each: rounded once they are one, each by itself none.
    b.gives(".00002 .00002 [.5 0 .5 0 0 0] dtransform", "1:1 1:0");
    b.gives("-.00001 -.00001 [.5 0 .5 0 0 0] dtransform", "1:-1 1:0");
    b.gives("[.00002 .00002 0 0 0 0] [.5 0 .5 0 0 0] matrix concatmatrix 0 get", "1:1");
    b.gives("-.00001 cvi -.99998 cvi .99999 cvi", "0:0 0:0 0:0");
  }

  /** Where a FIXED is wanted an INTEGER is RANGE beyond -32768 .. 32767. */
  private static void numbersAsFixed(Bench b) {
    String show = "/F " + FONT + "definefont setfont 1 1 moveto ";
    String[] texts = {"? 0.0 add", "0.0 ? add", "? 0.0 sub", "? 1.0 mul", "1.0 ? mul", "? 1 div", "1 ? div",
        "? cvr", "(?) cvr", "? setgray", "? 0 translate", "0 ? translate", "? 0 matrix translate", "0 ? matrix translate",
        "? 0 transform", "0 ? transform", "? 0 matrix transform", "0 ? matrix transform", "? 0 dtransform", "0 ? dtransform",
        "? 0 itransform", "0 ? itransform", "? 0 idtransform", "0 ? idtransform", "? 0 matrix idtransform", "? 1.0 0 {pop exit} for",
        "0 ? 0.0 {pop exit} for", "0.0 1 ? {pop exit} for", "[1 0 0 1 ? 0] setmatrix", "[1 0 0 1 0 ?] setmatrix", "[1 0 0 1 ? 0] concat",
        FONT + "? scalefont", FONT + "[1 0 0 1 ? 0] makefont", show + "? 0 () ashow", show + "0 ? () ashow", show + "? 0 1 () widthshow",
        show + "0 ? 1 () widthshow"};
    for (String text : texts) {
      b.bounds(text, -32768, 32767, Bench.RANGE);
    }
    b.bound("? sqrt", "32767", "32768", Bench.RANGE);
    b.bound("? setlinewidth", "32767", "32768", Bench.RANGE);
    b.bounds("/F << /FontMatrix [0 0 0 0 0 0] /BuildChar {pop pop ? 0 setcharwidth} >> definefont setfont 1 1 moveto (a) show",
        -32768, 32767, Bench.RANGE);
    b.bounds("/F << /FontMatrix [0 0 0 0 0 0] /BuildChar {pop pop 0 ? setcharwidth} >> definefont setfont 1 1 moveto (a) show",
        -32768, 32767, Bench.RANGE);
    b.bound("1 1 1 [1 0 0 1 ? 0] {<>} image", "32767", "32768", Bench.RANGE);
    for (String op : "moveto setgray setmiterlimit scale".split(" ")) {
      b.errs("1 40000 " + op, Bench.RANGE);
    }
    // Two INTEGERS stay such.
    b.gives("32768 32768 add 40000 0 sub 3 40000 mul", "0:65536 0:40000 0:120000");
  }

  private static void takes(Bench b, String text, int room, int bodies) {
    PaintTongue x = Bench.ran(text);
    b.due("error of " + text, x.look(10), 0);
    b.due("room of " + text, x.look(4), room);
    b.due("bodies of " + text, x.look(5), bodies);
  }

  /** Of a STRING of n bytes (n + 3) / 4 and 1, of a ROW n and 1, of a DICT for n pairs 2 n and 2. */
  private static void roomTaken(Bench b) {
    int[] lengths = {0, 1, 2, 3, 4, 5, 8, 9, 400, 500};
    for (int n : lengths) {
      takes(b, n + " string", (n + 3) / 4 + 1, 1);
      takes(b, n + " array", n + 1, 1);
      takes(b, Math.min(n, 200) + " dict", 2 * Math.min(n, 200) + 2, 1);
      takes(b, "(" + "x".repeat(Math.min(n, 400)) + ")", (Math.min(n, 400) + 3) / 4 + 1, 1);
      takes(b, "{" + "1 ".repeat(Math.min(n, 400)) + "}", Math.min(n, 400) + 1, 1);
    }
    takes(b, "1000 array", 1001, 1);
    takes(b, "[ ]", 1, 1);
    takes(b, "[ 1 2 3 ]", 4, 1);
    takes(b, "<< >>", 2, 1);
    takes(b, "<< 1 2 1 3 >>", 6, 1);
    takes(b, "<> <41> <4142434445>", 1 + 2 + 3, 3);
    takes(b, "matrix", 7, 1);
    takes(b, "{{} ()}", 3 + 1 + 1, 3);
    takes(b, "(abcd) 1 2 getinterval dup cvx", 2, 1);
    takes(b, "({} ()) token", 3 + 1, 2);
    takes(b, "currentdict /a 1 def", 0, 0);
  }

  /** Leaves so much of the room free, with nothing among the operands. */
  private static PaintTongue leaving(int room) {
    return Bench.ran(ELEVEN_ROWS + (LEFT_BY_ROWS - 1 - room) + " array pop");
  }

  /** At most 12,000 in all: else VM; an operator or token with an error makes nothing. */
  private static void roomFull(Bench b) {
    b.due("room that is left", 12000 - leaving(5).look(4), 5);
    Object[][] makers = {{"0 string", 1}, {"4 string", 2}, {"5 string", 3}, {"0 array", 1}, {"9 array", 10}, {"0 dict", 2},
        {"3 dict", 8}, {"[ ]", 1}, {"[ 1 2 ]", 3}, {"<< >>", 2}, {"<< 1 2 3 4 >>", 6}, {"matrix", 7}, {"()", 1}, {"(abcde)", 3},
        {"<4142434445>", 3}, {"{}", 1}, {"{1 2}", 3}, {"{1 {2} (3)}", 4 + 2 + 2}, {"{{{}}}", 5}};
    for (Object[] maker : makers) {
      String text = (String) maker[0];
      int room = (Integer) maker[1];
      PaintTongue x = leaving(room);
      b.due("with room for " + text, Bench.more(x, text), 0);
      b.due("then it is full: " + text, x.look(4), 12000);
      x = leaving(room - 1);
      int bodies = x.look(5);
      b.due("without room for " + text, Bench.more(x, text), 2);
      b.due("its error: " + text, x.look(10), Bench.VM);
      b.due("nothing was made: " + text, x.look(4), 12000 - room + 1);
      b.due("no body: " + text, x.look(5), bodies);
    }
    fontsAndTokens(b);
  }

  private static void fontsAndTokens(Bench b) {
    for (String text : new String[] {"F 1 scalefont", "F M makefont"}) {
      int room = 2 * 2 + 2 + 7;
      for (int less = 0; less <= 1; less++) {
        PaintTongue x = Bench.ran("/F " + FONT + "def /M matrix def");
        int free = 12000 - x.look(4) - 11015;
        Bench.more(x, ELEVEN_ROWS + (free - 1 - room + less) + " array pop");
        b.due("room ahead of " + text, 12000 - x.look(4), room - less);
        Bench.more(x, text);
        b.due("error of " + text, x.look(10), less == 0 ? 0 : Bench.VM);
        b.due("room behind " + text, 12000 - x.look(4), less == 0 ? 0 : room - 1);
      }
    }
    PaintTongue x = Bench.ran("/s ({(abcde) 1}) def");
    Bench.more(x, ELEVEN_ROWS + (12000 - x.look(4) - 11015 - 1 - 6) + " array pop");
    b.due("token with room", Bench.more(x, "s token"), 0);
    b.due("full by token", x.look(4), 12000);
    x = Bench.ran("/s ({(abcde) 1}) def");
    Bench.more(x, ELEVEN_ROWS + (12000 - x.look(4) - 11015 - 1 - 5) + " array pop");
    b.due("token without room", Bench.more(x, "s token"), 2);
    b.due("token's error", x.look(10) * 10000 + x.look(4), Bench.VM * 10000 + 11995);
    b.due("its string stays", Bench.operands(x), "8:11");
    // VM comes ahead of OVERFLOW.
    for (String text : new String[] {"matrix", "()", "{}"}) {
      x = leaving(0);
      Bench.more(x, "0 ".repeat(200));
      b.due("full of operands and room", x.look(0) * 100000 + x.look(4), 20012000);
      Bench.more(x, text);
      b.due("neither room nor place for " + text, x.look(10), Bench.VM);
    }
  }

  /** And 3,000 bodies: else VM. */
  private static void bodiesFull(Bench b) {
    String[] makers = {"0 string", "0 array", "0 dict", "[ ]", "<< >>", "matrix", "()", "<>", "{}"};
    for (String text : makers) {
      PaintTongue x = Bench.ran("2998 {0 string pop} repeat");
      b.due("the 3,000th by " + text, Bench.more(x, text), 0);
      b.due("3,000 bodies", x.look(5), 3000);
      int room = x.look(4);
      Bench.more(x, text);
      b.due("a 3,001st by " + text, x.look(10), Bench.VM);
      b.due("3,000 still", x.look(5), 3000);
      b.due("no room taken", x.look(4), room);
    }
    PaintTongue x = Bench.ran("/F " + FONT + "def");
    int there = x.look(5);
    Bench.more(x, (3000 - 1 - 2 - there) + " {0 string pop} repeat");
    b.due("a font's two bodies", Bench.more(x, "F 1 scalefont"), 0);
    b.due("3,000 bodies", x.look(5), 3000);
    x = Bench.ran("/F " + FONT + "def");
    Bench.more(x, (3000 - 1 - 1 - there) + " {0 string pop} repeat");
    Bench.more(x, "F 1 scalefont");
    b.due("room for one of them", x.look(10), Bench.VM);
    b.due("none was made", x.look(5), 2999);
    x = Bench.ran("2997 {0 string pop} repeat");
    b.due("a procedure in another one", Bench.more(x, "{{}}"), 0);
    x = Bench.ran("2998 {0 string pop} repeat");
    b.due("no body for the outer one", Bench.more(x, "{{}}"), 2);
    b.due("nor for the inner one then", x.look(5), 2999);
    // All of them are kept by a save, and given back.
    x = Bench.ran("/r [1 2] def 2996 {0 dict pop} repeat /d 1 dict def /e {r 0 get d length} def");
    b.due("3,000 bodies to be kept", x.look(5), 3000);
    Bench.more(x, "save ".repeat(10) + "r 0 7 put d 1 2 put e 11 index restore e");
    b.due("all is given back", Bench.operands(x) + " " + x.look(10), "7:0 ".repeat(10) + "0:7 0:1 0:1 0:0 0");
  }

  /** New ones have bytes 0, NULLS, no pairs: also where others were that are gone. */
  private static void fresh(Bench b) {
    for (String before : new String[] {"", "save (abc) pop [1 2] pop << 1 2 3 4 >> pop 9 array 0 1 8 {1 index exch 7 put} for pop restore"}) {
      PaintTongue x = Bench.ran(before + " 3 string 2 array 2 dict");
      b.due("kinds", Bench.operands(x), "8:3 9:2 10:0");
      for (int i = 0; i < 3; i++) {
        b.due("byte " + i, x.element(2, i, 1), 0);
      }
      b.due("null", x.element(1, 0, 0) * 10 + x.element(1, 1, 0), 33);
    }
  }

  /** A new KEY comes at the end; where one goes those behind come down by one; up to its n PAIRS. */
  private static void pairs(Bench b) {
    String all = " {exch = =} forall";
    b.prints("/d 3 dict def d 1 2 put d 3 4 put d 5 6 put d" + all, "1\n2\n3\n4\n5\n6\n");
    b.prints("/d 3 dict def d 1 2 put d 3 4 put d 1 7 put d" + all, "1\n7\n3\n4\n");
    b.prints("/d 3 dict def d 1 2 put d 3 4 put d 5 6 put d 1 undef d 8 9 put d" + all, "3\n4\n5\n6\n8\n9\n");
    b.prints("/d 3 dict def d 1 2 put d 3 4 put d 5 6 put d 3 undef d 3 9 put d" + all, "1\n2\n5\n6\n3\n9\n");
    b.prints("/d 3 dict def d 1 2 put d 3 4 put d 3 undef d 3 undef d length = d" + all, "1\n1\n2\n");
    b.prints("/d 1 dict def d 1 2 put d 1 undef d length = d" + all + " d 1 known =", "0\nfalse\n");
    b.fails("2 dict dup 1 1 put dup 2 2 put dup 3 3 put", Bench.DICTFULL, "put", "10:2 10:2 0:3 0:3");
    b.gives("2 dict dup 1 1 put dup 2 2 put dup 2 5 put dup 1 undef dup 3 3 put", "10:2");
    b.bound("0 1 ? {0 def} for", "199", "200", Bench.DICTFULL);
    b.bound("0 1 ? {0 store} for", "199", "200", Bench.DICTFULL);
    b.bound("currentdict 0 1 ? {1 index exch 0 put} for", "199", "200", Bench.DICTFULL);
    b.bound("200 dict 0 1 ? {1 index exch 0 put} for", "199", "200", Bench.DICTFULL);
    b.errs("0 1 199 {0 def} for 7 8 def 199 9 store", 0);
  }

  /** KEYS are INTEGERS, BOOLEANS, NAMES, OPERATORS, STRINGS; all else: TYPE. */
  private static void kindsOfKeys(Bench b) {
    String[] uses = {"? 1 def", "? load", "? 1 store", "2 dict ? known", "? where", "2 dict ? undef", "2 dict ? get", "2 dict ? 1 put",
        "<< ? 1 >>", "? " + FONT + "definefont", "? findfont"};
    for (String use : uses) {
      for (String key : new String[] {"1.5", "1.0", "null", "save", "[1]", "2 dict", "{a}"}) {
        b.errs(use.replace("?", key), Bench.TYPE);
      }
      if (!use.startsWith("<<")) {
        b.errs(use.replace("?", "mark"), Bench.TYPE);
      }
      for (String key : new String[] {"7", "-2147483648", "true", "/n", "/n cvx", "/add load", "/add load cvl", "(n)", "(n) cvx"}) {
        boolean sought = use.equals("? load") || use.endsWith(" get");
        b.errs(use.replace("?", key), use.equals("? findfont") ? Bench.FONT : sought ? Bench.UNDEFINED : 0);
      }
    }
    // They are kept LITERAL, and unlike if their kinds are.
    b.prints("/d 9 dict def d /n cvx 1 put d /add load 2 put d (m) cvx 3 put d {pop xcheck =} forall", "false\nfalse\nfalse\n");
    b.prints("/d 9 dict def d 1 (i) put d true (b) put d /1 (n) put d /true (t) put d /add (a) put d /add load (o) put d length = "
        + "d 1 get = d true get = d (1) get = d (true) get = d (add) get = d /add load cvl get =", "6\ni\nb\nn\nt\na\no\n");
    b.prints("/d 9 dict def d 0 1 put d false 2 put d length =", "2\n");
  }

  /** A STRING stands for the NAME of its bytes; of more than 30, or none: RANGE. */
  private static void stringsAsKeys(Bench b) {
    String[] uses = {"? 1 def", "? 1 store", "2 dict ? known", "? where", "2 dict ? undef", "2 dict ? 1 put", "<< ? 1 >>",
        "? " + FONT + "definefont", "? 1 def ? load", "<< ? 1 >> ? get", "? " + FONT + "definefont ? findfont", "? cvn"};
    for (String use : uses) {
      b.bound(use, "(" + THIRTY + ")", "(" + THIRTY + "k)", Bench.RANGE);
      b.bound(use, "(a)", "()", Bench.RANGE);
      b.bound(use, "30 string", "31 string", Bench.RANGE);
    }
    b.errs("() load", Bench.RANGE);
    b.errs("31 string load", Bench.RANGE);
    b.errs("2 dict () get", Bench.RANGE);
    b.errs("2 dict 31 string get", Bench.RANGE);
    b.errs("() findfont", Bench.RANGE);
    b.errs("31 string findfont", Bench.RANGE);
    // Bytes that no token has are fine in a name.
    b.prints("(a b\\000) 5 def (a b\\000) load = (a b\\000) cvn length =", "5\n4\n");
    // The bytes of then: a string that is changed afterwards is another key.
    b.prints("/s (ab) def s 1 def s 0 120 put /ab load = s where =", "1\nfalse\n");
  }

  /** NAMES have 1 to 30 bytes; alike are one. */
  private static void manyNames(Bench b) {
    String set = "/s 30 string def 0 1 29 {s exch 97 put} for ";
    String each = "1000 1 1998 {s 0 4 getinterval cvs pop s cvn s eq not {stop} if} for ";
    PaintTongue x = Bench.ran(set + each + each);
    b.due("a thousand names of 30 bytes", x.look(7) * 100 + x.look(10), 100000);
    b.due("all are alike with their bytes", x.run(0), 0);
    Bench.more(x, "s 0 98 put s cvn");
    b.due("one more", x.look(10), Bench.LIMIT);
    String beginnings = "97 1 129 {0 1 29 {s exch 2 index put} for pop 1 1 30 {s 0 3 -1 roll getinterval dup cvn eq not {stop} if} for} for ";
    for (String order : new String[] {"1 1 30", "30 -1 1"}) {
      x = Bench.ran("/s 30 string def " + (beginnings + beginnings).replace("1 1 30", order));
      b.due("names that begin alike, s itself among them", x.look(7), 33 * 30);
      b.due("each has its own bytes", x.run(0) * 100 + x.look(10), 0);
    }
  }

  /** Both ahead of all that the KEY is for. */
  private static void keysFirst(Bench b) {
    String[] uses = {"0 dict begin ? 1 def", "0 dict begin ? 1 store", "0 dict ? 1 put", "? load", "1 dict ? get", "? findfont",
        "? 1 dict definefont"};
    int[] others = {Bench.DICTFULL, Bench.DICTFULL, Bench.DICTFULL, Bench.UNDEFINED, Bench.UNDEFINED, Bench.FONT, Bench.FONT};
    PaintTongue full = Bench.ran("0 1 999 {4 string cvs cvn pop} for");
    b.due("1,000 names", full.look(7), 1000);
    for (int i = 0; i < uses.length; i++) {
      b.errs(uses[i].replace("?", "(n)"), others[i]);
      b.errs(uses[i].replace("?", "()"), Bench.RANGE);
      b.errs(uses[i].replace("?", "31 string"), Bench.RANGE);
      Bench.more(full, "clear " + uses[i].replace("?", "(n)"));
      b.errs(full, "a 1,001st name by " + uses[i], Bench.LIMIT);
    }
    PaintTongue x = Bench.ran("/e () def /d 0 dict def");
    Bench.more(x, ELEVEN_ROWS + (12000 - x.look(4) - 11015 - 1 - 3) + " array pop");
    Bench.more(x, "<< e 1 >>");
    b.due("no room for the dict, but the key is told first", x.look(10), Bench.RANGE);
    Bench.more(x, "<< 1 1 >>");
    b.due("no room for the dict", x.look(10), Bench.VM);
    b.errs("<< () >>", Bench.RANGE);
    b.errs("<< () 1 null 2 >>", Bench.TYPE);
  }

  private static void alike(Bench b, String first, String second, boolean same) {
    b.gives(first + " " + second + " eq " + first + " " + second + " ne", same ? "2:1 2:0" : "2:0 2:1");
    b.gives(second + " " + first + " eq", same ? "2:1" : "2:0");
  }

  /** What is SAME, and what is not. */
  private static void same(Bench b) {
    String[][] pairs = {{"1", "1.0"}, {"32767", "32767.0"}, {"-32768", "-32768.0"}, {"2147483647", "2147483647"}, {"0", "-0.0"},
        {"true", "true"}, {"null", "null"}, {"mark", "["}, {"/a", "/a cvx"}, {"/add load", "/add load cvl"}, {"(a)", "(a)"}, {"()", "()"},
        {"(a)", "/a"}, {"(a) cvx", "/a cvx"}, {"currentdict", "currentdict"}};
    for (String[] pair : pairs) {
      alike(b, pair[0], pair[1], true);
    }
    String[][] others = {{"1", "2"}, {"65536", "1.0"}, {"1", "1.00002"}, {"40000", "-25536.0"}, {"true", "false"},
        {"true", "1"}, {"false", "null"}, {"null", "mark"}, {"/a", "/b"}, {"/add", "/add load"}, {"(add)", "/add load"},
        {"/add load", "/sub load"}, {"(a)", "(b)"}, {"(a)", "()"}, {"(ab)", "/a"}, {"/true", "true"}, {"(1)", "1"}, {"[]", "[]"}, {"[1]", "[1]"},
        {"1 dict", "1 dict"}, {"{}", "{}"}, {"save", "save"}, {"0", "null"}, {"[1]", "1"}};
    for (String[] pair : others) {
      alike(b, pair[0], pair[1], false);
    }
    b.gives("[1 2] dup 0 1 getinterval 1 index 0 1 getinterval eq exch pop", "2:1");
    b.gives("[1 2] dup 0 1 getinterval 1 index 1 1 getinterval eq exch pop", "2:0");
    b.gives("[1 2] dup 0 1 getinterval 1 index 0 2 getinterval eq exch pop", "2:0");
    b.gives("[1 2] dup 1 0 getinterval 1 index 2 0 getinterval eq exch pop", "2:0");
    b.gives("[1 2] dup cvx eq 1 dict dup eq save dup eq", "2:1 2:1 2:1");
    b.gives("(abab) dup 0 2 getinterval exch 2 2 getinterval eq", "2:1");
  }
}
