/** What the tests share: feeding texts, running them, and telling what is not as due. */
final class Bench {
  // The errors' numbers.
  static final int UNDERFLOW = 1, OVERFLOW = 2, TYPE = 3, RANGE = 4, UNDEFINED = 5, RESULT = 6, DICTFULL = 7,
      DICTSTACKFULL = 8, DICTSTACKEMPTY = 9, EXECFULL = 10, EXIT = 11, RESTORE = 12, FONT = 13, LIMIT = 14, POINT = 15,
      SYNTAX = 16, NOMARK = 17, VM = 18;

  private final String test;
  private int wrong;
  private int checked;

  Bench(String test) {
    this.test = test;
  }

  /** Brings a text onto the tape as calls of feed() and end() do it. */
  static void tape(PaintTongue x, String text) {
    byte[] bytes = new byte[(text.length() + 19) / 20 * 20];
    java.util.Arrays.fill(bytes, (byte) ' ');
    for (int i = 0; i < text.length(); i++) {
      bytes[i] = (byte) text.charAt(i);
    }
    int there = 0;
    for (int i = 0; i < bytes.length; i += 20) {
      there = x.feed(word(bytes, i), word(bytes, i + 4), word(bytes, i + 8), word(bytes, i + 12), word(bytes, i + 16));
    }
    x.end(there - bytes.length + text.length());
  }

  private static int word(byte[] b, int i) {
    return (b[i] & 255) << 24 | (b[i + 1] & 255) << 16 | (b[i + 2] & 255) << 8 | b[i + 3] & 255;
  }

  static PaintTongue ran(String text) {
    return ran(16, 16, text);
  }

  static PaintTongue ran(int width, int height, String text) {
    PaintTongue x = new PaintTongue(width, height);
    more(x, text);
    return x;
  }

  /** Runs another text on the same object; what it answers at last. */
  static int more(PaintTongue x, String text) {
    tape(x, text);
    x.start();
    int answer = 1;
    for (int i = 0; i < 20 && answer == 1; i++) {
      answer = x.run(20000);
    }
    return answer;
  }

  static String printed(PaintTongue x) {
    StringBuilder all = new StringBuilder();
    for (int i = 0; x.out(i) != PaintTongue.NONE; i++) {
      all.append((char) x.out(i));
    }
    return all.toString();
  }

  static String blamed(PaintTongue x) {
    StringBuilder all = new StringBuilder();
    for (int i = 0; x.blamed(i) != PaintTongue.NONE; i++) {
      all.append((char) x.blamed(i));
    }
    return all.toString();
  }

  /** The operands, the lowest first, as kind:value with x behind executable ones. */
  static String operands(PaintTongue x) {
    StringBuilder all = new StringBuilder();
    for (int k = x.look(0) - 1; k >= 0; k--) {
      all.append(all.length() > 0 ? " " : "").append(x.top(k, 0)).append(':').append(x.top(k, 1));
      all.append(x.top(k, 2) == 1 ? "x" : "");
    }
    return all.toString();
  }

  static String rows(PaintTongue x, int page, int height) {
    StringBuilder all = new StringBuilder();
    for (int y = height - 1; y >= 0; y--) {
      for (int i = 0; x.pixel(page, i, y) != PaintTongue.NONE; i++) {
        all.append(x.pixel(page, i, y) == 1 ? '#' : '.');
      }
      all.append('\n');
    }
    return all.toString();
  }

  void due(String what, long got, long want) {
    checked++;
    if (got != want) {
      wrong++;
      System.out.println(test + ": " + what + " answered " + got + ", due is " + want);
    }
  }

  void due(String what, String got, String want) {
    checked++;
    if (!got.equals(want)) {
      wrong++;
      System.out.println(test + ": " + what + " answered\n" + got + "\n  due is\n" + want);
    }
  }

  /** A text runs through and prints that. */
  void prints(String text, String want) {
    PaintTongue x = ran(text);
    due("error of " + text, x.look(10), 0);
    due(text, printed(x), want);
  }

  /** A text's last error, what it blames, and the operands that are left. */
  void fails(String text, int error, String blame, String left) {
    PaintTongue x = ran(text);
    due("run of " + text, x.run(0), 2);
    due("error of " + text, x.look(10), error);
    due("blamed by " + text, blamed(x), blame);
    due("left by " + text, operands(x), left);
  }

  /** A text runs through and leaves these operands. */
  void gives(String text, String want) {
    PaintTongue x = ran(text);
    due("error of " + text, x.look(10), 0);
    due(text, operands(x), want);
  }

  /** A text runs through (0), or fails with that error, whatever it leaves. */
  void errs(String text, int error) {
    errs(ran(text), text, error);
  }

  /** What stands of a text that was run. */
  void errs(PaintTongue x, String text, int error) {
    due("run of " + text, x.run(0), error == 0 ? 0 : 2);
    due("error of " + text, x.look(10), error);
  }

  /** Both sides of a bound: with the first in the place of ? a text runs through, with the second it fails. */
  void bound(String text, String within, String beyond, int error) {
    errs(text.replace("?", within), 0);
    errs(text.replace("?", beyond), error);
  }

  /** Both sides of a least and of a greatest number, which stand in the place of ? with their next ones. */
  void bounds(String text, int least, int greatest, int error) {
    bound(text, "" + least, "" + (least - 1L), error);
    bound(text, "" + greatest, "" + (greatest + 1L), error);
  }

  void close() {
    System.out.println(test + ": " + checked + " answers looked at, " + wrong + " not as due");
    if (wrong != 0) {
      System.exit(1);
    }
  }
}
