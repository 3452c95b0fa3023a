/** The example of README.md, and what that says of its answers. */
public final class ExampleTest {
  public static void main(String[] args) {
    Bench b = new Bench("ExampleTest");
    PaintTongue x = new PaintTongue(24, 24);
    b.due("say", say(x, "2 2 moveto 20 2 lineto 20 20 lineto closepath fill (done) = 3 4 add"), 0);
    b.due("look(13)", x.look(13), 153);
    b.due("pixel(-1, 19, 3)", x.pixel(-1, 19, 3), 1);
    b.due("top(0, 1)", x.top(0, 1), 7);
    b.due("out(0)", x.out(0), 'd');
    b.due("say", say(x, "1 0 div"), 2);
    b.due("look(10)", x.look(10), 6);
    b.due("blamed(0)", x.blamed(0), 'd');
    b.close();
  }

  static int say(PaintTongue x, String text) {
    x.end(0);
    for (int i = 0; i < text.length(); i += 20) {
      x.feed(word(text, i), word(text, i + 4), word(text, i + 8), word(text, i + 12), word(text, i + 16));
    }
    x.end(text.length());
    x.start();
    return x.run(20000);
  }

  static int word(String text, int from) {
    int word = 0;
    for (int i = from; i < from + 4; i++) {
      word = word << 8 | (i < text.length() ? text.charAt(i) & 0xFF : ' ');
    }
    return word;
  }
}
