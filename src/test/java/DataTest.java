/** PART 1 and PART 4: the stack, numbers, objects, rows, strings, dicts, and telling. */
public final class DataTest {
  public static void main(String[] args) {
    Bench b = new Bench("DataTest");
    stack(b);
    whole(b);
    fixed(b);
    bits(b);
    conversions(b);
    comparing(b);
    objects(b);
    texts(b);
    rows(b);
    strings(b);
    dicts(b);
    keys(b);
    b.close();
  }

  private static void gives(Bench b, String text, String want) {
    PaintTongue x = Bench.ran(text);
    b.due("error of " + text, x.look(10), 0);
    b.due(text, Bench.operands(x), want);
  }

  private static void stack(Bench b) {
    b.gives("1 2 pop", "0:1");
    b.gives("1 2 exch", "0:2 0:1");
    b.gives("1 dup", "0:1 0:1");
    b.gives("1 2 3 2 copy", "0:1 0:2 0:3 0:2 0:3");
    b.gives("1 0 copy", "0:1");
    b.gives("7 8 9 2 index", "0:7 0:8 0:9 0:7");
    b.gives("1 2 3 4 3 1 roll", "0:1 0:4 0:2 0:3");
    b.gives("1 2 3 4 3 -1 roll", "0:1 0:3 0:4 0:2");
    b.gives("1 2 3 3 -2147483648 roll", "0:3 0:1 0:2");
    b.gives("1 0 5 roll", "0:1");
    b.gives("1 2 clear", "");
    b.gives("5 5 count", "0:5 0:5 0:2");
    b.gives("1 mark [ << 2 3 counttomark", "0:1 4:0 4:0 4:0 0:2 0:3 0:2");
    b.gives("1 mark 2 3 cleartomark", "0:1");
    b.fails("pop", 1, "pop", "");
    b.fails("1 exch", 1, "exch", "0:1");
    b.fails("1 -1 copy", 4, "copy", "0:1 0:-1");
    b.fails("1 2 copy", 1, "copy", "0:1 0:2");
    b.fails("1 1.0 copy", 3, "copy", "0:1 1:65536");
    b.fails("[1] copy", 1, "copy", "9:1");
    b.fails("1 -1 index", 4, "index", "0:1 0:-1");
    b.fails("1 1 index", 1, "index", "0:1 0:1");
    b.fails("1 1.5 index", 3, "index", "0:1 1:98304");
    b.fails("1 -1 0 roll", 4, "roll", "0:1 0:-1 0:0");
    b.fails("1 2 0 roll", 1, "roll", "0:1 0:2 0:0");
    b.fails("1 counttomark", 17, "counttomark", "0:1");
    b.fails("1 cleartomark", 17, "cleartomark", "0:1");
    b.fails("1 ]", 17, "]", "0:1");
    b.fails("1 >>", 17, ">>", "0:1");
  }

  private static void whole(Bench b) {
    b.gives("2 3 add 2 3 sub 2 3 mul", "0:5 0:-1 0:6");
    b.gives("7 2 idiv -7 2 idiv 7 -2 idiv 7 2 mod -7 2 mod 7 -2 mod", "0:3 0:-3 0:-3 0:1 0:-1 0:1");
    b.gives("-2147483648 -1 mod", "0:0");
    b.gives("5 neg -5 abs -5 ceiling -5 floor -5 round -5 truncate", "0:-5 0:5 0:-5 0:-5 0:-5 0:-5");
    b.fails("2147483647 1 add", 4, "add", "0:2147483647 0:1");
    b.fails("-2147483648 1 sub", 4, "sub", "0:-2147483648 0:1");
    b.fails("65536 32768 mul", 4, "mul", "0:65536 0:32768");
    b.fails("1 0 idiv", 6, "idiv", "0:1 0:0");
    b.fails("1 0 mod", 6, "mod", "0:1 0:0");
    b.fails("-2147483648 -1 idiv", 4, "idiv", "0:-2147483648 0:-1");
    b.fails("-2147483648 neg", 4, "neg", "0:-2147483648");
    b.fails("-2147483648 abs", 4, "abs", "0:-2147483648");
    b.fails("1.0 2 idiv", 3, "idiv", "1:65536 0:2");
    b.fails("1 true add", 3, "add", "0:1 2:1");
    b.fails("true add", 1, "add", "2:1");
  }

  private static void fixed(Bench b) {
    b.gives("1 .5 add 1 .5 sub 3 .5 mul", "1:98304 1:32768 1:98304");
    b.gives("1 3 div -1 3 div 1 -3 div 6 2 div", "1:21845 1:-21846 1:-21846 1:196608");
    b.gives("-0.00001 0.5 mul", "1:-1");
    b.gives("1.5 neg -1.5 abs", "1:-98304 1:98304");
    b.gives("1.5 ceiling -1.5 ceiling 1.5 floor -1.5 floor", "1:131072 1:-65536 1:65536 1:-131072");
    b.gives("1.5 round -1.5 round 2.4 round 1.5 truncate -1.5 truncate", "1:131072 1:-65536 1:131072 1:65536 1:-65536");
    b.gives("2 sqrt .5 sqrt 0 sqrt 16.0 sqrt", "1:92681 1:46340 1:0 1:262144");
    b.fails("1 0 div", 6, "div", "0:1 0:0");
    b.fails("1 0.0 div", 6, "div", "0:1 1:0");
    b.fails("32767 .5 div", 4, "div", "0:32767 1:32768");
    b.fails("32768 .5 mul", 4, "mul", "0:32768 1:32768");
    b.fails("32767.5 .5 add", 4, "add", "1:2147450880 1:32768");
    b.fails("-32768.0 neg", 4, "neg", "1:-2147483648");
    b.fails("32767.5 ceiling", 4, "ceiling", "1:2147450880");
    b.fails("-1 sqrt", 4, "sqrt", "0:-1");
    b.fails("40000 sqrt", 4, "sqrt", "0:40000");
  }

  private static void bits(Bench b) {
    b.gives("5 2 bitshift -1 -28 bitshift 1 31 bitshift 1 32 bitshift -1 -32 bitshift -1 -2147483648 bitshift",
        "0:20 0:15 0:-2147483648 0:0 0:0 0:0");
    b.gives("12 10 and 12 10 or 12 10 xor 0 not", "0:8 0:14 0:6 0:-1");
    b.gives("true false and true false or true true xor true not", "2:0 2:1 2:0 2:0");
    b.fails("1 true and", 3, "and", "0:1 2:1");
    b.fails("1.0 1.0 or", 3, "or", "1:65536 1:65536");
    b.fails("1.0 not", 3, "not", "1:65536");
    b.fails("1 1.0 bitshift", 3, "bitshift", "0:1 1:65536");
  }

  private static void conversions(Bench b) {
    b.gives("5 cvi 1.9 cvi -1.9 cvi (12) cvi ( \n-3.7 ) cvi (16#1F) cvi", "0:5 0:1 0:-1 0:12 0:-3 0:31");
    b.gives("5 cvr 1.5 cvr (12) cvr (.25) cvr", "1:327680 1:98304 1:786432 1:16384");
    b.fails("(1 2) cvi", 3, "cvi", "8:3");
    b.fails("(a) cvi", 3, "cvi", "8:1");
    b.fails("() cvr", 3, "cvr", "8:0");
    b.fails("true cvi", 3, "cvi", "2:1");
    b.fails("(99999999999) cvi", 4, "cvi", "8:11");
    b.fails("32768 cvr", 4, "cvr", "0:32768");
    b.fails("(32768) cvr", 4, "cvr", "8:5");
    b.gives("(32768) cvi", "0:32768");
  }

  private static void comparing(Bench b) {
    b.gives("1 1.0 eq 1 2 eq 40000 40000 eq 1 true eq", "2:1 2:0 2:1 2:0");
    b.gives("(ab) (ab) eq (ab) /ab eq /ab (ab) cvx eq /a /b eq", "2:1 2:1 2:1 2:0");
    b.gives("[1] [1] eq [1 2 3] dup eq [1] dup cvx eq", "2:0 2:1 2:1");
    b.gives("[1 2] dup 0 1 getinterval exch 0 1 getinterval eq [1 2] dup 0 1 getinterval eq", "2:1 2:0");
    b.gives("null null eq mark mark eq 1 dict dup eq 1 dict 1 dict eq", "2:1 2:1 2:1 2:0");
    b.gives("/add load /add load eq /add load /add eq", "2:1 2:0");
    b.gives("save dup eq", "2:1");
    b.gives("1 2 ne 1 1 ne", "2:1 2:0");
    b.gives("1 .5 gt 1 1 gt 1 1 ge 1 2 lt 2 1 le 40000 .5 gt", "2:1 2:0 2:1 2:1 2:0 2:1");
    b.gives("(ab) (abc) lt (b) (abc) gt () () ge (a) (\\377) le", "2:1 2:1 2:1 2:1");
    b.fails("1 (a) gt", 3, "gt", "0:1 8:1");
    b.fails("/a (a) lt", 3, "lt", "5:1 8:1");
  }

  private static void objects(Bench b) {
    b.gives("/a cvx (s) cvx [1] cvx /add load cvl", "5:1x 8:1x 9:1x 6:0");
    b.gives("1 cvx 1.5 cvx true cvx null cvx mark cvx 1 dict cvx {1} cvl", "0:1 1:98304 2:1 3:0 4:0 10:0 9:1");
    b.gives("{1} xcheck [1] xcheck /add load xcheck /a xcheck", "2:1 2:0 2:1 2:0");
    b.prints("1 type == 1.0 type == true type == null type == mark type == /a type == /add load type == save type == "
        + "(s) type == [] type == 1 dict type ==", "integertype\nrealtype\nbooleantype\nnulltype\nmarktype\nnametype\n"
        + "operatortype\nsavetype\nstringtype\narraytype\ndicttype\n");
    b.gives("1 type", "5:11x");
    b.gives("(ab) cvn (ab) cvx cvn", "5:2 5:2x");
    b.fails("() cvn", 4, "cvn", "8:0");
    b.fails("31 string cvn", 4, "cvn", "8:31");
    b.fails("/a cvn", 3, "cvn", "5:1");
    b.prints("-12 9 string cvs print 1.5 9 string cvs print true 9 string cvs print /ab 9 string cvs print",
        "-121.5trueab");
    b.gives("12 5 string cvs dup length exch pop 12 2 string cvs", "0:2 8:2");
    b.fails("123 2 string cvs", 4, "cvs", "0:123 8:2");
  }

  private static void texts(Bench b) {
    b.prints("-2147483648 = 0 = 1.0 = -0.5 = 0.00001 = -0.00001 = 32767.99999 = 0.1 =",
        "-2147483648\n0\n1.0\n-0.5\n0.0\n-0.00001\n32767.99998\n0.09999\n");
    b.prints("null = mark = [1] = save = 1 dict = /a = (s) = /add load = {1} =", "--nostringval--\n--nostringval--\n"
        + "--nostringval--\n--nostringval--\n--nostringval--\na\ns\nadd\n--nostringval--\n");
    b.prints("null == mark == save == 1 dict == /a == /a cvx == (s) == /add load == true == 1.5 ==",
        "-null-\n-mark-\n-save-\n-dict-\n/a\na\n(s)\n--add--\ntrue\n1.5\n");
    b.prints("[] == {} == [1 /a [2 (x)] {b}] ==", "[ ]\n{ }\n[ 1 /a [ 2 (x) ] { b } ]\n");
    b.prints("[[[[[[1]]]]]] == [[[[[1]]]]] ==", "[ [ [ [ [ ... ] ] ] ] ]\n[ [ [ [ [ 1 ] ] ] ] ]\n");
    PaintTongue x = Bench.ran("400 string == 1000 array ==");
    b.due("300 bytes and 10, twice", x.look(8), 602);
    b.due("the first of them", x.out(0), '(');
    b.due("its end", x.out(300), '\n');
    b.prints("500 string dup 499 65 put = count =", "\u0000".repeat(499) + "A\n0\n");
    b.fails("/a print", 3, "print", "5:1");
  }

  private static void rows(Bench b) {
    b.gives("3 array 0 array", "9:3 9:0");
    b.prints("2 array == [1 2] length = [] length =", "[ -null- -null- ]\n2\n0\n");
    b.prints("[1 2 3] 1 get = [1 2 3] dup 1 9 put ==", "2\n[ 1 9 3 ]\n");
    b.prints("[1 2 3 4] 1 2 getinterval dup == dup 0 7 put pop [5 6] dup 1 [8] putinterval ==", "[ 2 3 ]\n[ 5 8 ]\n");
    b.prints("/r [1 2 3 4] def r 1 3 getinterval 0 9 put r == r 1 r 0 3 getinterval putinterval r ==",
        "[ 1 9 3 4 ]\n[ 1 1 9 3 ]\n");
    b.gives("[1 2] aload 3 array astore pop", "");
    b.prints("[1 2] aload == = = 1 2 2 array astore ==", "[ 1 2 ]\n2\n1\n[ 1 2 ]\n");
    b.prints("[1 2] 4 array copy == [] [1] copy ==", "[ 1 2 ]\n[ ]\n");
    b.gives("{1 2} 0 1 getinterval {1} 3 array cvx copy", "9:1x 9:1x");
    b.fails("-1 array", 4, "array", "0:-1");
    b.fails("1001 array", 4, "array", "0:1001");
    b.fails("501 string", 4, "string", "0:501");
    b.fails("201 dict", 4, "dict", "0:201");
    b.fails("1.0 array", 3, "array", "1:65536");
    b.fails("[1] 1 get", 4, "get", "9:1 0:1");
    b.fails("[1] -1 get", 4, "get", "9:1 0:-1");
    b.fails("[1] /a get", 3, "get", "9:1 5:1");
    b.fails("1 1 get", 3, "get", "0:1 0:1");
    b.fails("[1] 1 2 put", 4, "put", "9:1 0:1 0:2");
    b.fails("[1 2] 1 2 getinterval", 4, "getinterval", "9:2 0:1 0:2");
    b.fails("[1 2] 2147483647 2147483647 getinterval", 4, "getinterval", "9:2 0:2147483647 0:2147483647");
    b.gives("[1 2] 2 0 getinterval", "9:0");
    b.fails("[1] 0 (a) putinterval", 3, "putinterval", "9:1 0:0 8:1");
    b.fails("[1] 1 [2] putinterval", 4, "putinterval", "9:1 0:1 9:1");
    b.fails("1 2 array astore", 1, "astore", "0:1 9:2");
    b.fails("[1 2] [1] copy", 4, "copy", "9:2 9:1");
    b.fails("[1] (a) copy", 3, "copy", "9:1 8:1");
    b.fails("200 array aload", 2, "aload", "9:200");
    b.gives("199 array aload length", Bench.operands(Bench.ran("199 {null} repeat 199")));
    b.due("room of rows", Bench.ran("10 array [1 2] 5 string 3 dict").look(4), 11 + 3 + 3 + 8);
  }

  private static void strings(Bench b) {
    b.prints("3 string 1 get = (abc) 1 get = (abc) dup 0 321 put print", "0\n98\nAbc");
    b.prints("(abcd) 1 2 getinterval print (abcd) dup 2 (xy) putinterval print", "bcabxy");
    b.prints("(abcbc) (bc) search = == == ==", "true\n(a)\n(bc)\n(bc)\n");
    b.prints("(abc) (x) search = == (abc) () search = == == ==", "false\n(abc)\ntrue\n()\n()\n(abc)\n");
    b.prints("(abc) (ab) anchorsearch = == == (abc) (bc) anchorsearch = ==", "true\n(ab)\n(c)\nfalse\n(abc)\n");
    b.prints("( 12 abc) token = == == (abc/d) token = == == (  %x) token =",
        "true\n12\n( abc)\ntrue\nabc\n(/d)\nfalse\n");
    b.prints("({1 (a)} x) token = == == /v 3 def (//v) token = == ==", "true\n{ 1 (a) }\n( x)\ntrue\n3\n()\n");
    b.prints("/s (abcdef) def s 0 3 getinterval s 2 4 getinterval copy print s print", "abcababcf");
    b.fails("(a)) token", 16, "", "8:1");
    b.fails("(\\)) token", 16, "token", "8:1");
    b.fails("(/) token", 16, "token", "8:1");
    b.fails("(//none) token", 5, "token", "8:6");
    b.fails("(abc) 3 get", 4, "get", "8:3 0:3");
    b.fails("(abc) 0 /a put", 3, "put", "8:3 0:0 5:1");
    b.fails("(abc) /a search", 3, "search", "8:3 5:1");
    PaintTongue x = Bench.ran("((abc) \\() token");
    b.due("a token's string", x.look(10), 0);
    x = Bench.ran("198 {0} repeat () ({(abc)}) token");
    b.due("no room for what token gives", x.look(10), 2);
    b.due("and nothing is made", x.look(5), 3);
  }

  private static void dicts(Bench b) {
    b.gives("3 dict dup length exch maxlength 5 dict", "0:0 0:3 10:0");
    b.prints("<< /a 1 /b 2 /a 3 >> dup length = dup maxlength = {= =} forall", "2\n3\n3\na\n2\nb\n");
    b.prints("<< /a 1 >> dup /a get = dup /b known = /a known =", "1\nfalse\ntrue\n");
    b.prints("/d 2 dict def d /a 1 put d /b 2 put d /a 3 put d /a undef d /zz undef d /c 4 put d {= =} forall",
        "2\nb\n4\nc\n");
    b.prints("/d 1 dict def /x 1 def d begin x = /x 2 def x = /x 3 store x = end x = countdictstack =", "1\n2\n3\n1\n2\n");
    b.prints("/x 1 def 1 dict begin /x 5 store end x = /y 6 store y =", "5\n6\n");
    b.prints("/x 1 def /x where {/x known =} if /add where = /none where =", "true\nfalse\nfalse\n");
    b.prints("currentdict maxlength = currentdict length = /a 1 def currentdict length =", "200\n0\n1\n");
    b.prints("/add load == /true load = /x 7 def /x load =", "--add--\ntrue\n7\n");
    b.prints("<< /a 1 >> 1 dict copy /a get = << >> 0 dict copy length =", "1\n0\n");
    b.prints("/add {7} def 1 2 add =", "7\n");
    b.fails("<< /a 1 >> << /b 2 >> copy", 4, "copy", "10:1 10:1");
    b.fails("<< /a 1 >> 0 dict copy", 4, "copy", "10:1 10:0");
    b.fails("<< /a >>", 4, ">>", "4:0 5:1");
    b.fails("<< null >>", 4, ">>", "4:0 3:0");
    b.fails("<< null 1 >>", 3, ">>", "4:0 3:0 0:1");
    b.fails("1 dict /a get", 5, "get", "10:0 5:1");
    b.fails("/a load", 5, "load", "5:1");
    b.fails("0 dict /a 1 put", 7, "put", "10:0 5:1 0:1");
    b.fails("0 dict begin /a 1 def", 7, "def", "5:1 0:1");
    b.fails("0 dict begin /a 1 store", 7, "store", "5:1 0:1");
    b.fails("end", 9, "end", "");
    b.fails("1 begin", 3, "begin", "0:1");
    b.fails("1 length", 3, "length", "0:1");
    b.fails("[] maxlength", 3, "maxlength", "9:0");
    PaintTongue x = Bench.ran("18 {1 dict begin} repeat 1 dict begin");
    b.due("20 are open", x.look(1), 20);
    b.due("a 21st", x.look(10), 8);
    x = Bench.ran("0 1 199 {0 def} for 1000 0 def");
    b.due("200 pairs of the user's", x.look(10), 7);
    b.due("its dict takes no room", x.look(5), 1);
  }

  private static void keys(Bench b) {
    b.prints("<< 1 (i) true (b) /n (n) (s) (s) /add load (o) >> dup 1 get = dup true get = dup (n) get = dup /s get = "
        + "/add load get =", "i\nb\nn\ns\no\n");
    b.prints("<< /a cvx 1 >> {pop xcheck =} forall", "false\n");
    b.prints("(k) 5 def k =", "5\n");
    b.prints("/abc length = /add load cvl pop", "3\n");
    b.fails("1.0 1 def", 3, "def", "1:65536 0:1");
    b.fails("null 1 def", 3, "def", "3:0 0:1");
    b.fails("() 1 def", 4, "def", "8:0 0:1");
    b.fails("31 string 1 def", 4, "def", "8:31 0:1");
    b.fails("1 dict () known", 4, "known", "10:0 8:0");
    b.fails("1 dict [] known", 3, "known", "10:0 9:0");
    b.fails("() load", 4, "load", "8:0");
    b.fails("() where", 4, "where", "8:0");
    b.fails("0 dict () 1 put", 4, "put", "10:0 8:0 0:1");
    b.due("a string that is sought is met", Bench.ran("{(new) load} stopped").look(7), 1);
  }
}
