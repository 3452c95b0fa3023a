/** What each operator takes: one operand fewer is UNDERFLOW, another kind is TYPE; then nothing has changed. */
public final class OperandEdgesTest {
  private static final String FONT = "<< /FontMatrix matrix /BuildChar {pop pop 1 0 setcharwidth} >>";
  private static final String READY = "/F " + FONT + " definefont setfont 1 1 moveto";
  private static final String NUMBER = "1|true|(1)|null|/a|mark|[1]";
  private static final String WHOLE = "1|1.0|true|(1)|null";
  private static final String TRUTH = "true|1|null|/true";
  private static final String BYTES = "(a)|/a|1|{a}|[97]";
  private static final String ROW = "[1]|(a)|1|1 dict|/a";
  private static final String DICT = "1 dict|[1]|(a)|1|null";
  private static final String KEY = "/add|1.0|null|mark|[1]|1 dict";
  private static final String PROCEDURE = "{pop pop}|[]|(a) cvx|/a cvx|/add load|1";
  private static final String MATRIX = "matrix|1|(abcdef)|1 dict|[1 0 0 1 0 true]|[null 0 0 1 0 0]|{1 0 0 1 0 a}";
  private static final String SIX = "matrix|1|(abcdef)|1 dict";
  private static final String ANY = "1";

  // What goes ahead, the operator, and its operands, each with what is of another kind behind it.
  private static final String[][] OPERATORS = {
      {"", "pop", ANY}, {"", "exch", ANY, ANY}, {"", "dup", ANY}, {"", "index", ANY, "0|1.0|true|null"}, {"", "roll", "0|1.0|true", "0|1.0|true"},
      {"", "add", NUMBER, NUMBER}, {"", "sub", NUMBER, NUMBER}, {"", "mul", NUMBER, NUMBER}, {"", "div", NUMBER, NUMBER},
      {"", "idiv", WHOLE, WHOLE}, {"", "mod", WHOLE, WHOLE}, {"", "neg", NUMBER}, {"", "abs", NUMBER}, {"", "ceiling", NUMBER},
      {"", "floor", NUMBER}, {"", "round", NUMBER}, {"", "truncate", NUMBER}, {"", "sqrt", NUMBER}, {"", "bitshift", WHOLE, WHOLE},
      {"", "and", WHOLE, WHOLE}, {"", "or", WHOLE, WHOLE}, {"", "xor", WHOLE, WHOLE}, {"", "and", TRUTH, TRUTH}, {"", "or", TRUTH, TRUTH},
      {"", "xor", TRUTH, TRUTH}, {"", "not", "1|1.0|null|(1)|/a"}, {"", "cvi", "1|true|null|/a|[1]|(a)|()|(1 2)"},
      {"", "cvr", "1|true|null|/a|[1]|(a)|()|(1 2)"}, {"", "eq", ANY, ANY}, {"", "ne", ANY, ANY},
      {"", "gt", "1|true|(1)|/a", "1|true|(1)|/a"}, {"", "ge", "1|true|(1)|null", "1|true|(1)|null"},
      {"", "lt", "(1)|true|1|/a", "(1)|true|1|/a"}, {"", "le", "(1)|true|1|null", "(1)|true|1|null"},
      {"", "cvx", ANY}, {"", "cvl", ANY}, {"", "xcheck", ANY}, {"", "type", ANY}, {"", "cvn", BYTES}, {"", "cvs", ANY, "9 string|/a|1|[1]"},
      {"", "array", WHOLE}, {"", "string", WHOLE}, {"", "dict", WHOLE}, {"", "length", "[1]|1|1.0|true|null|mark|save|/add load"},
      {"", "maxlength", DICT}, {"", "get", "[1]|1|/a|null", "0|0.0|/a|(a)|true"}, {"", "get", "(a)|1|/a|null", "0|0.0|/a|(a)|true"},
      {"", "get", "<< 1 2 >>|1|/a|null", "1|1.0|null|[1]"}, {"", "put", "[1]|1|/a|null", "0|0.0|/a|(a)|true", ANY},
      {"", "put", "(a)|1|/a|null", "0|0.0|/a|(a)|true", WHOLE}, {"", "put", DICT.replace("[1]|(a)|", ""), KEY, ANY},
      {"", "getinterval", "[1]|1|/a|1 dict|null", WHOLE, "0|0.0|true"}, {"", "getinterval", "(a)|1|/a|1 dict", WHOLE, "0|0.0|true"},
      {"", "putinterval", "[1]|(a)|/a|1 dict|null", "0|0.0|true", "[1]|(a)|/a|1 dict"},
      {"", "putinterval", "(a)|[1]|/a|1 dict|null", "0|0.0|true", "(a)|[1]|/a|1 dict"}, {"", "aload", ROW}, {"", "astore", "[]|()|1|/a"},
      {"", "search", BYTES, BYTES}, {"", "anchorsearch", BYTES, BYTES}, {"", "token", BYTES}, {"", "copy", "[1]|(a)|1 dict|1|true", "[1]|(a)|1 dict|null|/a"},
      {"", "copy", "(a)|[1]|1 dict|1|true", "(a)|[1]|1 dict|null|/a"}, {"", "copy", "1 dict|[1]|(a)|1|true", "1 dict|[1]|(a)|null|/a"},
      {"", "def", KEY, ANY}, {"", "load", KEY}, {"", "store", KEY, ANY}, {"", "begin", DICT}, {"", "known", DICT, KEY}, {"", "where", KEY},
      {"", "undef", DICT, KEY}, {"", "=", ANY}, {"", "==", ANY}, {"", "print", BYTES}, {"", "exec", ANY}, {"", "stopped", ANY},
      {"1 2 3 4", "if", TRUTH, PROCEDURE}, {"1 2 3 4", "ifelse", TRUTH, PROCEDURE, PROCEDURE}, {"1 2 3 4", "repeat", WHOLE, PROCEDURE},
      {"", "loop", PROCEDURE.replace("pop pop", "exit")}, {"1 2 3 4", "for", NUMBER, NUMBER, NUMBER, PROCEDURE},
      {"1 2 3 4", "forall", "[1]|1|/a|null", PROCEDURE}, {"", "bind", PROCEDURE}, {"", "restore", "save|1|null|/save"},
      {"", "setlinewidth", NUMBER}, {"", "setlinecap", WHOLE}, {"", "setlinejoin", WHOLE}, {"", "setmiterlimit", NUMBER},
      {"", "setgray", NUMBER}, {"", "setdots", "[0 1 2 3 4 5 6 7 8 9 10 11 12 13 14 15]|(abcdefghijklmnop)|1|1 dict"},
      {"", "currentmatrix", SIX}, {"", "setmatrix", MATRIX}, {"", "translate", NUMBER.replace("|[1]", ""), NUMBER.replace("|[1]", "")},
      {"", "translate", NUMBER, NUMBER, "matrix|true|null|(a)"}, {"", "scale", NUMBER, NUMBER.replace("|[1]", "")},
      {"", "scale", NUMBER, NUMBER, "matrix|true|null|(a)"}, {"", "rotate", "90|true|null|(90)|/a"},
      {"", "rotate", "90|true|null|(90)|[90]", "matrix|true|null|(a)"}, {"", "concat", MATRIX}, {"", "concatmatrix", MATRIX, MATRIX, SIX},
      {"", "invertmatrix", MATRIX, SIX}, {"", "transform", NUMBER, NUMBER.replace("|[1]", "")},
      {"", "transform", NUMBER, NUMBER, MATRIX.replace("|1|", "|true|")}, {"", "dtransform", NUMBER, NUMBER.replace("|[1]", "")},
      {"", "dtransform", NUMBER, NUMBER, MATRIX.replace("|1|", "|true|")}, {"", "itransform", NUMBER, NUMBER.replace("|[1]", "")},
      {"", "itransform", NUMBER, NUMBER, MATRIX.replace("|1|", "|true|")}, {"", "idtransform", NUMBER, NUMBER.replace("|[1]", "")},
      {"", "idtransform", NUMBER, NUMBER, MATRIX.replace("|1|", "|true|")}, {"", "moveto", NUMBER, NUMBER}, {READY, "lineto", NUMBER, NUMBER},
      {READY, "rmoveto", NUMBER, NUMBER}, {READY, "rlineto", NUMBER, NUMBER},
      {READY, "curveto", NUMBER, NUMBER, NUMBER, NUMBER, NUMBER, NUMBER}, {READY, "rcurveto", NUMBER, NUMBER, NUMBER, NUMBER, NUMBER, NUMBER},
      {READY, "pathforall", PROCEDURE, PROCEDURE, PROCEDURE, PROCEDURE},
      {"", "image", WHOLE, WHOLE, WHOLE, MATRIX, PROCEDURE.replace("pop pop", "()")},
      {"", "imagemask", WHOLE, WHOLE, TRUTH, MATRIX, PROCEDURE.replace("pop pop", "()")},
      {"", "definefont", KEY, FONT + "|[1]|(a)|null"}, {"/add " + FONT + " definefont pop", "findfont", KEY},
      {"", "scalefont", FONT + "|[1]|(a)|null", NUMBER}, {"", "makefont", FONT + "|[1]|(a)|null", MATRIX}, {"", "setfont", FONT + "|[1]|(a)|null"},
      {READY, "show", BYTES}, {READY, "ashow", NUMBER, NUMBER, BYTES}, {READY, "widthshow", NUMBER, NUMBER, WHOLE, BYTES},
      {READY, "kshow", PROCEDURE, BYTES}, {READY, "stringwidth", BYTES}};
  private static final String[] TAKE_NOTHING = ("clear count mark [ << currentdict countdictstack save vmstatus gsave grestore grestoreall "
      + "initgraphics currentlinewidth currentgray matrix initmatrix newpath closepath flattenpath fill eofill clip eoclip initclip stroke "
      + "erasepage showpage").split(" ");

  public static void main(String[] args) {
    Bench b = new Bench("OperandEdgesTest");
    for (String[] operator : OPERATORS) {
      suits(b, operator);
      fewer(b, operator);
      others(b, operator);
    }
    for (String op : TAKE_NOTHING) {
      b.errs(op, 0);
    }
    b.fails("setcharwidth", Bench.UNDERFLOW, "setcharwidth", "");
    b.fails("1 setcharwidth", Bench.UNDERFLOW, "setcharwidth", "0:1");
    b.fails("true 1 setcharwidth", Bench.TYPE, "setcharwidth", "2:1 0:1");
    b.fails("1 true setcharwidth", Bench.TYPE, "setcharwidth", "0:1 2:1");
    b.close();
  }

  private static String first(String operand) {
    return operand.substring(0, (operand + "|").indexOf('|'));
  }

  /** The operands from one on, with another object in the place of one of them. */
  private static String operands(String[] operator, int from, int changed, String other) {
    StringBuilder text = new StringBuilder();
    for (int i = from; i < operator.length; i++) {
      text.append(i == changed ? other : first(operator[i])).append(' ');
    }
    return text.toString();
  }

  private static void suits(Bench b, String[] operator) {
    String text = operator[0] + " " + operands(operator, 2, 0, "") + operator[1];
    b.due("error of " + text, Bench.ran(text).look(10), 0);
  }

  /** Fewer OPERANDS than the operator takes, whatever their kinds are. */
  private static void fewer(Bench b, String[] operator) {
    String setup = operator[0].startsWith("1 2 3 4") ? "" : operator[0];
    for (int from = 3; from <= operator.length; from++) {
      refused(b, setup, operands(operator, from, 0, ""), operator[1], Bench.UNDERFLOW);
    }
    String last = operator[operator.length - 1];
    if (operator.length > 3 && last.indexOf('|') > 0 && !" copy index ".contains(" " + operator[1] + " ")) {
      String wrong = last.substring(last.indexOf('|') + 1).split("[|]")[0];
      refused(b, setup, operands(operator, 3, operator.length - 1, wrong), operator[1],
          wrong.startsWith("[") || !rowOnTop(operator) ? Bench.UNDERFLOW : Bench.TYPE);
    }
  }

  /** Another object than a row on top means the form with an operand less. */
  private static boolean rowOnTop(String[] operator) {
    String forms = " translate scale rotate transform dtransform itransform idtransform ";
    return forms.contains(" " + operator[1] + " ") && first(operator[operator.length - 1]).equals("matrix");
  }

  private static void others(Bench b, String[] operator) {
    for (int i = 2; i < operator.length; i++) {
      String[] kinds = operator[i].split("[|]");
      for (int k = 1; k < kinds.length; k++) {
        refused(b, operator[0], operands(operator, 2, i, kinds[k]), operator[1], Bench.TYPE);
      }
    }
  }

  private static void refused(Bench b, String setup, String operands, String op, int error) {
    PaintTongue x = Bench.ran(setup + " " + operands);
    String what = operands + op;
    b.due("error ahead of " + what, x.look(10), 0);
    String before = state(x);
    b.due("run of " + what, Bench.more(x, op), 2);
    b.due("error of " + what, x.look(10), error);
    b.due("blamed by " + what, Bench.blamed(x), op);
    b.due("changed by " + what, state(x), before);
  }

  private static String state(PaintTongue x) {
    StringBuilder all = new StringBuilder(Bench.operands(x));
    for (int what : new int[] {1, 3, 4, 5, 6, 7, 8, 9, 12, 13, 14, 15, 16}) {
      all.append(' ').append(x.look(what));
    }
    return all.toString();
  }
}
