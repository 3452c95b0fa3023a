import java.util.Random;

/**
 * What holds whatever a text does: in pieces of a few STEPS, behind a reset, as a STRING or as a PROCEDURE that is
 * executed it comes to the same. The texts are made by chance, the same ones each time.
 */
public final class PiecesTest {
  private static final int TEXTS = 3000;
  // In these @ becomes a number, $ a string, & a matrix, ? any value, ~ some more of these.
  private static final String[] LINES = {
      "? ? add", "? ? mul", "? ? div", "? ? eq", "? ? lt", "? ? and", "? neg", "? round", "? cvi", "? cvx", "? type", "? length", "? =", "? exec",
      "pop", "dup", "exch", "count", "clear", "mark", "cleartomark", "2 copy", "1 index", "3 1 roll", "[1 2 3] aload pop", "$ $ search",
      "/a ? def", "/b ? store", "a", "b", "2 dict begin", "end", "<< /a 1 >> begin", "( foo bar) token", "(1 2 add) cvx exec",
      "3 {~} repeat", "@ @ @ {pop ~} for", "? {~} forall", "{~} stopped", "true {~} {~} ifelse", "{~ exit} loop", "stop", "exit", "{~} bind exec",
      "gsave", "grestore", "grestoreall", "save restore", "/s save def", "s restore", "initgraphics", "initclip", "newpath", "flattenpath",
      "@ @ translate", "2 .5 scale", "90 rotate", "& concat", "& setmatrix", "& matrix invertmatrix", "@ @ transform", "@ @ itransform",
      "@ @ moveto @ @ lineto @ @ lineto fill", "@ @ moveto @ @ rlineto @ @ @ @ @ @ curveto closepath eofill", "@ @ moveto @ @ lineto @ @ lineto stroke",
      "@ @ moveto @ @ lineto @ @ rlineto closepath @ @ rmoveto stroke", "0 0 moveto 20 0 lineto @ 20 lineto clip", "currentpoint", "pathbbox",
      ".5 setgray", "1 setlinecap", "1 setlinejoin", "2 setlinejoin", "3 setlinewidth", "{~} {pop pop} {~} {} pathforall", "erasepage", "showpage",
      "/F << /FontMatrix & /BuildChar {pop pop @ @ setcharwidth ~} >> definefont setfont", "/F findfont setfont", "currentfont", "@ @ setcharwidth",
      "@ @ moveto $ show", "@ @ moveto @ @ $ ashow", "@ @ moveto @ @ 98 $ widthshow", "@ @ moveto {pop pop ~} $ kshow", "$ stringwidth",
      "4 3 2 & {~ $} image", "5 4 true & {$} imagemask"};
  private static final String[] VALUES = {"@", "@", "@", "$", "/a", "a", "true", "null", "mark", "[@ $ @]", "{~}", "<< /a @ 2 $ >>", "currentdict", "3 array"};
  private static final String[] NUMBERS = {"0", "1", "2", "3", "5", "8", "13", "-4", ".5", "2.75", "-1.25", "97", "1500"};
  private static final String[] STRINGS = {"<>", "<61>", "<6162>", "<ff00aa>", "<6261626162>"};
  private static final String[] MATRICES = {"matrix", "[1 0 0 1 0 0]", "[.5 0 0 2 3 1]", "[0 1 -1 0 8 0]", "[2 1 .5 -1 0 4]", "[0 0 0 0 1 1]"};

  private final Bench b = new Bench("PiecesTest");
  private final Random chance = new Random(12);

  public static void main(String[] args) {
    PiecesTest test = new PiecesTest();
    for (int i = 0; i < TEXTS; i++) {
      test.compare(test.text());
    }
    test.b.close();
  }

  private String one(String[] of) {
    return of[chance.nextInt(of.length)];
  }

  /** A font ahead, and lines most of which are stopped if they fail. */
  private String text() {
    StringBuilder all = new StringBuilder("/F << /FontMatrix [.5 0 0 1 0 0] /BuildChar {pop pop @ 0 setcharwidth ~} >> definefont setfont ");
    for (int i = 1 + chance.nextInt(8); i > 0; i--) {
      all.append(chance.nextInt(4) > 0 ? "{" + one(LINES) + " " + one(LINES) + "} stopped pop " : one(LINES) + " ");
    }
    return filled(all.toString(), 0);
  }

  private String filled(String line, int depth) {
    StringBuilder all = new StringBuilder();
    for (char c : line.toCharArray()) {
      switch (c) {
        case '@': all.append(one(NUMBERS)); break;
        case '$': all.append(one(STRINGS)); break;
        case '&': all.append(one(MATRICES)); break;
        case '?': all.append(filled(one(VALUES), depth + 1)); break;
        case '~': all.append(depth > 2 ? "" : filled(one(LINES), depth + 1)); break;
        default: all.append(c);
      }
    }
    return all.toString();
  }

  private void compare(String text) {
    PaintTongue x = begun(text);
    int answer = x.run(20000);
    if (answer == 1) {
      return;
    }
    b.due("in pieces: " + text, state(inPieces(text), true), state(x, true));
    b.due("behind a reset: " + text, state(behindReset(text), true), state(x, true));
    // What else takes room may be one thing too many, or be made behind a save: such texts are left out.
    if (x.look(4) < 8000 && text.length() <= 400 && !text.contains("save")) {
      b.due("as a string: " + text, state(Bench.ran(20, 17, hex(text) + " cvx exec"), false), state(x, false));
      b.due("as a procedure: " + text, state(Bench.ran(20, 17, "{" + text + "} exec"), false), state(x, false));
    }
  }

  private static PaintTongue begun(String text) {
    PaintTongue x = new PaintTongue(20, 17);
    Bench.tape(x, text);
    x.start();
    return x;
  }

  private PaintTongue inPieces(String text) {
    PaintTongue x = begun(text);
    for (int i = 0; i < 20000 && x.run(chance.nextInt(7)) == 1; i++) {
    }
    return x;
  }

  /** Another text was on its way ahead of the reset. */
  private PaintTongue behindReset(String text) {
    PaintTongue x = begun(text());
    x.run(chance.nextInt(200));
    x.reset();
    Bench.more(x, text);
    return x;
  }

  private static String hex(String text) {
    StringBuilder all = new StringBuilder("<");
    for (char c : text.toCharArray()) {
      all.append(Integer.toHexString(c >> 4)).append(Integer.toHexString(c & 15));
    }
    return all.append('>').toString();
  }

  /** All that the face tells; or without ROOM, bodies, NAMES and STEPS. */
  private static String state(PaintTongue x, boolean whole) {
    StringBuilder all = new StringBuilder().append(x.run(0));
    for (int what = 0; what <= 16; what++) {
      boolean told = whole || (what != 4 && what != 5 && what != 7 && what != 11);
      all.append(told ? " " + x.look(what) : " -");
    }
    all.append('\n').append(Bench.operands(x)).append('\n').append(elements(x));
    all.append('\n').append(Bench.blamed(x)).append('\n').append(Bench.printed(x)).append('\n');
    for (int page = -1; page < 4 && page < x.look(9); page++) {
      all.append(Bench.rows(x, page, 17));
    }
    for (int what = 0; what <= 10; what++) {
      boolean there = x.look(16) == 1 || (what != 6 && what != 7);
      all.append(there ? " " + x.graphics(what) : " -");
    }
    for (int i = 0; x.part(i, 0) != PaintTongue.NONE; i++) {
      for (int what = 0; what <= 6; what++) {
        all.append(' ').append(x.part(i, what));
      }
    }
    return all.toString();
  }

  private static String elements(PaintTongue x) {
    StringBuilder all = new StringBuilder();
    for (int k = 0; k < 5; k++) {
      for (int i = 0; i < 8; i++) {
        all.append(x.element(k, i, 0)).append(' ').append(x.element(k, i, 1)).append(' ');
      }
    }
    return all.toString();
  }
}
