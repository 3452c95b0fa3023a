/** Promises 1 to 4 and the edges of the face. */
public final class FaceTest {
  public static void main(String[] args) {
    Bench b = new Bench("FaceTest");
    PaintTongue x = new PaintTongue(3, 500);
    b.due("pixel beyond a least width", x.pixel(-1, 8, 0), -1);
    b.due("pixel of a least width", x.pixel(-1, 7, 0), 0);
    b.due("pixel of a greatest height", x.pixel(-1, 0, 95), 0);
    b.due("pixel beyond a greatest height", x.pixel(-1, 0, 96), -1);
    b.close();
  }
}
