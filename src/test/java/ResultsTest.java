/** What each operator takes and gives: what lies below stays, nothing of what it takes is left, nothing else comes. */
public final class ResultsTest {
  private static final String ONES = "1:65536 1:0 1:0 1:65536 1:0 1:0";
  private static final String FONT = "<< /FontMatrix matrix /BuildChar {pop pop 1 2 setcharwidth} >>";
  private static final String READY = "/F " + FONT + " definefont setfont 1 1 moveto ";

  private static final String[][] STACK = {
      {"1 pop", ""}, {"1 2 exch", "0:2 0:1"}, {"1 dup", "0:1 0:1"}, {"1 2 2 copy", "0:1 0:2 0:1 0:2"}, {"1 0 copy", "0:1"}, {"[1] [2 3] copy", "9:1"},
      {"(a) (bc) copy", "8:1"}, {"<< 1 2 >> 3 dict copy", "10:1"}, {"5 6 1 index", "0:5 0:6 0:5"}, {"1 2 3 3 1 roll", "0:3 0:1 0:2"},
      {"1 2 0 5 roll", "0:1 0:2"}, {"count", "0:1"}, {"mark", "4:0"}, {"[", "4:0"}, {"<<", "4:0"}, {"mark 1 2 cleartomark", ""},
      {"mark 1 2 counttomark", "4:0 0:1 0:2 0:2"}};
  private static final String[][] NUMBERS = {
      {"5 2 add", "0:7"}, {"5 2 sub", "0:3"}, {"5 2 mul", "0:10"}, {"5 2 div", "1:163840"}, {"5 2.0 add", "1:458752"}, {"5.0 2 sub", "1:196608"},
      {"5.0 2 mul", "1:655360"}, {"7 2 idiv", "0:3"}, {"7 2 mod", "0:1"}, {"7 neg", "0:-7"}, {"7.0 neg", "1:-458752"}, {"-7 abs", "0:7"},
      {"1.5 ceiling", "1:131072"}, {"1.5 floor", "1:65536"}, {"1.5 round", "1:131072"}, {"1.5 truncate", "1:65536"}, {"1 ceiling", "0:1"},
      {"4 sqrt", "1:131072"}, {"1 3 bitshift", "0:8"}, {"6 3 and", "0:2"}, {"6 3 or", "0:7"}, {"6 3 xor", "0:5"}, {"true false and", "2:0"},
      {"true false or", "2:1"}, {"true true xor", "2:0"}, {"5 not", "0:-6"}, {"true not", "2:0"}, {"1.5 cvi", "0:1"}, {"(7) cvi", "0:7"}, {"1 cvr", "1:65536"},
      {"(7) cvr", "1:458752"}, {"1 2 eq", "2:0"}, {"1 2 ne", "2:1"}, {"1 2 gt", "2:0"}, {"1 2 ge", "2:0"}, {"1 2 lt", "2:1"}, {"(a) (b) le", "2:1"}};
  private static final String[][] OBJECTS = {
      {"/a cvx", "5:1x"}, {"/a cvx cvl", "5:1"}, {"/a xcheck", "2:0"}, {"1 type", "5:11x"}, {"(abc) cvn", "5:3"}, {"12 9 string cvs", "8:2"}, {"3 array", "9:3"},
      {"3 string", "8:3"}, {"3 dict", "10:0"}, {"[ 1 2 ]", "9:2"}, {"<< 1 2 3 4 >>", "10:2"}, {"(abc) length", "0:3"}, {"3 dict maxlength", "0:3"},
      {"[4 5] 1 get", "0:5"}, {"(ab) 1 get", "0:98"}, {"<< 1 2 >> 1 get", "0:2"}, {"[4 5] 1 6 put", ""}, {"(ab) 1 6 put", ""}, {"1 dict 1 6 put", ""},
      {"[4 5 6] 1 2 getinterval", "9:2"}, {"(abc) 1 1 getinterval", "8:1"}, {"[4 5 6] 1 [7] putinterval", ""}, {"(abc) 1 (x) putinterval", ""},
      {"[4 5] aload", "0:4 0:5 9:2"}, {"4 5 2 array astore", "9:2"}, {"(abcd) (bc) search", "8:1 8:2 8:1 2:1"}, {"(abcd) (x) search", "8:4 2:0"},
      {"(abcd) (ab) anchorsearch", "8:2 8:2 2:1"}, {"(abcd) (b) anchorsearch", "8:4 2:0"}, {"(12 a) token", "8:2 0:12 2:1"}, {"( ) token", "2:0"},
      {"/a 1 def", ""}, {"/a 1 def /a load", "0:1"}, {"/a 1 store", ""}, {"1 dict begin", ""}, {"1 dict begin end", ""}, {"1 dict 1 known", "2:0"},
      {"/a where", "2:0"}, {"/a 1 def /a where", "10:1 2:1"}, {"1 dict 1 undef", ""}, {"currentdict", "10:0"}, {"countdictstack", "0:2"}, {"1 =", ""},
      {"1 ==", ""}, {"(a) print", ""}};
  private static final String[][] CONTROL = {
      {"5 exec", "0:5"}, {"{5} exec", "0:5"}, {"true {5} if", "0:5"}, {"false {5} if", ""}, {"true {5} {6} ifelse", "0:5"}, {"false {5} {6} ifelse", "0:6"},
      {"2 {5} repeat", "0:5 0:5"}, {"{exit} loop", ""}, {"1 1 3 {} for", "0:1 0:2 0:3"}, {"[4 5] {} forall", "0:4 0:5"}, {"(ab) {} forall", "0:97 0:98"},
      {"<< 4 5 >> {} forall", "0:4 0:5"}, {"{5} stopped", "0:5 2:0"}, {"5 stopped", "0:5 2:0"}, {"{stop} stopped", "2:1"}, {"{5} bind", "9:1x"},
      {"save", "7:0"}, {"save restore", ""}, {"vmstatus", "0:0 0:0"}};
  private static final String[][] GRAPHICS = {
      {"gsave", ""}, {"grestore", ""}, {"gsave grestore", ""}, {"grestoreall", ""}, {"initgraphics", ""}, {"1 setlinewidth", ""}, {"currentlinewidth", "1:65536"},
      {"1 setlinecap", ""}, {"1 setlinejoin", ""}, {"1 setmiterlimit", ""}, {"1 setgray", ""}, {"currentgray", "1:0"},
      {"[0 1 2 3 4 5 6 7 8 9 10 11 12 13 14 15] setdots", ""}, {"matrix", "9:6"}, {"6 array currentmatrix", "9:6"}, {"matrix setmatrix", ""}, {"initmatrix", ""},
      {"2 3 translate", ""}, {"2 3 scale", ""}, {"90 rotate", ""}, {"2 3 matrix translate", "9:6"}, {"2 3 matrix scale", "9:6"}, {"90 matrix rotate", "9:6"},
      {"matrix concat", ""}, {"matrix matrix matrix concatmatrix", "9:6"}, {"matrix matrix invertmatrix", "9:6"}, {"1 2 transform", "1:65536 1:131072"},
      {"1 2 dtransform", "1:65536 1:131072"}, {"1 2 itransform", "1:65536 1:131072"}, {"1 2 idtransform", "1:65536 1:131072"},
      {"1 2 matrix transform", "1:65536 1:131072"}, {"1 2 matrix dtransform", "1:65536 1:131072"}, {"1 2 matrix itransform", "1:65536 1:131072"},
      {"1 2 matrix idtransform", "1:65536 1:131072"}, {"newpath", ""}, {"1 2 moveto", ""}, {"1 2 moveto 3 4 lineto", ""}, {"1 2 moveto 3 4 rmoveto", ""},
      {"1 2 moveto 3 4 rlineto", ""}, {"1 2 moveto 1 2 3 4 5 6 curveto", ""}, {"1 2 moveto 1 2 3 4 5 6 rcurveto", ""}, {"closepath", ""},
      {"1 2 moveto currentpoint", "1:65536 1:131072"}, {"flattenpath", ""}, {"1 2 moveto pathbbox", "1:65536 1:131072 1:65536 1:131072"},
      {"1 2 moveto {} {} {} {} pathforall", "1:65536 1:131072"}, {"fill", ""}, {"eofill", ""}, {"clip", ""}, {"eoclip", ""}, {"initclip", ""}, {"stroke", ""},
      {"erasepage", ""}, {"showpage", ""}, {"1 1 1 matrix {()} image", ""}, {"1 1 true matrix {()} imagemask", ""}};
  private static final String[][] FONTS = {
      {"/F " + FONT + " definefont", "10:2"}, {READY + "/F findfont", "10:2"}, {FONT + " 2 scalefont", "10:2"}, {FONT + " matrix makefont", "10:2"},
      {FONT + " setfont", ""}, {READY + "currentfont", "10:2"}, {READY + "(a) show", ""}, {READY + "1 1 (a) ashow", ""}, {READY + "1 1 97 (a) widthshow", ""},
      {READY + "{} (ab) kshow", "0:97 0:98"}, {READY + "(a) stringwidth", "1:65536 1:131072"}, {READY + "() show", ""}, {READY + "1 1 () ashow", ""},
      {READY + "1 1 97 () widthshow", ""}, {READY + "{} () kshow", ""}, {READY + "() stringwidth", "1:0 1:0"}};

  public static void main(String[] args) {
    Bench b = new Bench("ResultsTest");
    for (String[][] table : new String[][][] {STACK, NUMBERS, OBJECTS, CONTROL, GRAPHICS, FONTS}) {
      for (String[] row : table) {
        gives(b, row[0], row[1]);
      }
    }
    b.gives("77 clear", "");
    b.gives("77 66 55 clear 44", "0:44");
    rowsOfSix(b);
    b.close();
  }

  private static void gives(Bench b, String text, String want) {
    b.gives("77 " + text, "0:77" + (want.isEmpty() ? "" : " " + want));
    b.gives("/x 77 " + text + " 8", "5:1 0:77" + (want.isEmpty() ? "" : " " + want.replace("0:1", text.equals("count") ? "0:2" : "0:1")) + " 0:8");
  }

  /** The six that come into a row. */
  private static void rowsOfSix(Bench b) {
    String[][] rows = {{"6 array currentmatrix", ONES}, {"matrix", ONES}, {"2 3 6 array translate", "1:65536 1:0 1:0 1:65536 1:131072 1:196608"},
        {"2 3 6 array scale", "1:131072 1:0 1:0 1:196608 1:0 1:0"}, {"90 6 array rotate", "1:0 1:65536 1:-65536 1:0 1:0 1:0"},
        {"180 6 array rotate", "1:-65536 1:0 1:0 1:-65536 1:0 1:0"}, {"-90 6 array rotate", "1:0 1:-65536 1:65536 1:0 1:0 1:0"},
        {"[1 2 3 4 5 6] [7 8 9 10 11 12] 6 array concatmatrix", "1:1638400 1:1835008 1:3735552 1:4194304 1:6553600 1:7340032"},
        {"[2 0 0 4 6 8] 6 array invertmatrix", "1:32768 1:0 1:0 1:16384 1:-196608 1:-131072"},
        {"[0 1 2 0 3 5] 6 array invertmatrix", "1:0 1:32768 1:65536 1:0 1:-327680 1:-98304"}};
    for (String[] row : rows) {
      gives(b, row[0] + " aload pop", row[1]);
    }
    b.gives("77 5 6 translate 2 3 scale 90 rotate [1 2 3 4 5 6] concat 6 array currentmatrix aload pop",
        "0:77 1:-262144 1:196608 1:-524288 1:589824 1:-458752 1:1376256");
    b.gives("77 [1 2 3 4 5 6] setmatrix 7 8 translate 6 array currentmatrix aload pop",
        "0:77 1:65536 1:131072 1:196608 1:262144 1:2359296 1:3407872");
  }
}
