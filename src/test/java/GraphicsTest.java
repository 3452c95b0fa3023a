/** PART 5 without its painting: matrices, paths, and what is kept. */
public final class GraphicsTest {
  public static void main(String[] args) {
    Bench b = new Bench("GraphicsTest");
    matrices(b);
    changes(b);
    inverses(b);
    places(b);
    paths(b);
    pathLimits(b);
    flattening(b);
    boxes(b);
    goingThrough(b);
    numbers(b);
    keeping(b);
    b.close();
  }

  private static void matrices(Bench b) {
    b.prints("matrix == [2 0 0 3 4 5] setmatrix matrix currentmatrix == 6 array currentmatrix ==",
        "[ 1.0 0.0 0.0 1.0 0.0 0.0 ]\n[ 2.0 0.0 0.0 3.0 4.0 5.0 ]\n[ 2.0 0.0 0.0 3.0 4.0 5.0 ]\n");
    b.prints("[1 2 3 4 5 6] [.5 0 0 2 1 1] matrix concatmatrix ==", "[ 0.5 4.0 1.5 8.0 3.5 13.0 ]\n");
    b.prints("[64 -64 64 -64 32767 -32768] setmatrix matrix currentmatrix == initmatrix matrix currentmatrix ==",
        "[ 64.0 -64.0 64.0 -64.0 32767.0 -32768.0 ]\n[ 1.0 0.0 0.0 1.0 0.0 0.0 ]\n");
    b.prints("/m [2 0 0 2 1 1] def m m m concatmatrix == m ==", "[ 4.0 0.0 0.0 4.0 3.0 3.0 ]\n[ 4.0 0.0 0.0 4.0 3.0 3.0 ]\n");
    b.fails("[1 2 3] setmatrix", 4, "setmatrix", "9:3");
    b.fails("[/a 2 3] setmatrix", 4, "setmatrix", "9:3");
    b.fails("[1 2 3 4 5 /a] setmatrix", 3, "setmatrix", "9:6");
    b.fails("[64.1 0 0 1 0 0] setmatrix", 4, "setmatrix", "9:6");
    b.fails("[1 0 0 1 32768 0] setmatrix", 4, "setmatrix", "9:6");
    b.fails("1 setmatrix", 3, "setmatrix", "0:1");
    b.fails("5 array currentmatrix", 4, "currentmatrix", "9:5");
    b.fails("[9 0 0 9 0 0] [9 0 0 9 0 0] matrix concatmatrix", 4, "concatmatrix", "9:6 9:6 9:6");
    b.fails("[1] [/a 0 0 1 0 0] matrix concatmatrix", 3, "concatmatrix", "9:1 9:6 9:6");
  }

  private static void changes(Bench b) {
    b.prints("2 3 translate 4 5 scale 90 rotate matrix currentmatrix ==", "[ 0.0 5.0 -4.0 0.0 2.0 3.0 ]\n");
    b.prints("2 3 matrix translate == 4 5 matrix scale == -90 matrix rotate == 180.0 matrix rotate == 360000 matrix rotate ==",
        "[ 1.0 0.0 0.0 1.0 2.0 3.0 ]\n[ 4.0 0.0 0.0 5.0 0.0 0.0 ]\n[ 0.0 -1.0 1.0 0.0 0.0 0.0 ]\n"
        + "[ -1.0 0.0 0.0 -1.0 0.0 0.0 ]\n[ 1.0 0.0 0.0 1.0 0.0 0.0 ]\n");
    b.prints("2 2 scale [1 2 3 4 5 6] concat matrix currentmatrix ==", "[ 2.0 4.0 6.0 8.0 10.0 12.0 ]\n");
    b.fails("45 rotate", 4, "rotate", "0:45");
    b.fails("90.5 rotate", 4, "rotate", "1:5931008");
    b.fails("65 1 scale", 4, "scale", "0:65 0:1");
    b.fails(".5 .5 scale 65 1 scale", 4, "scale", "0:65 0:1");
    b.fails("9 9 scale 9 1 scale", 4, "scale", "0:9 0:1");
    b.fails("65 1 matrix scale", 4, "scale", "0:65 0:1 9:6");
    b.fails("1 2 [1] translate", 4, "translate", "0:1 0:2 9:1");
    b.fails("1 [1] translate", 1, "translate", "0:1 9:1");
    b.fails("true 1 translate", 3, "translate", "2:1 0:1");
    b.fails("40000 1 translate", 4, "translate", "0:40000 0:1");
    b.fails("[9 0 0 9 0 0] concat [9 0 0 9 0 0] concat", 4, "concat", "9:6");
    b.fails("32000 0 translate 32000 0 translate", 4, "translate", "0:32000 0:0");
  }

  private static void inverses(Bench b) {
    b.prints("[2 0 0 4 6 8] matrix invertmatrix == [0 1 -1 0 3 5] matrix invertmatrix ==",
        "[ 0.5 0.0 0.0 0.25 -3.0 -2.0 ]\n[ 0.0 -1.0 1.0 0.0 -5.0 3.0 ]\n");
    b.prints("[3 0 0 3 1 1] matrix invertmatrix ==", "[ 0.33332 0.0 0.0 0.33332 -0.33334 -0.33334 ]\n");
    b.fails("[1 2 2 4 0 0] matrix invertmatrix", 6, "invertmatrix", "9:6 9:6");
    b.fails("[.01 0 0 1 0 0] matrix invertmatrix", 4, "invertmatrix", "9:6 9:6");
    b.fails("[1 2 2 4 0 0] [1] invertmatrix", 4, "invertmatrix", "9:6 9:1");
  }

  private static void places(Bench b) {
    b.prints("[2 1 0 3 10 20] setmatrix 1 2 transform = = 1 2 dtransform = = 12 27 itransform = = 2 7 idtransform = =",
        "27.0\n12.0\n7.0\n2.0\n2.0\n1.0\n2.0\n1.0\n");
    b.prints("1 2 [2 0 0 2 5 5] transform = = 1 2 [2 0 0 2 5 5] idtransform = =", "9.0\n7.0\n1.0\n0.5\n");
    b.prints("-.1 0 [.5 0 0 1 0 0] transform pop =", "-0.05\n");
    b.fails("32767 0 [2 0 0 1 0 0] transform", 4, "transform", "0:32767 0:0 9:6");
    b.fails("1 2 [1 2 2 4 0 0] itransform", 6, "itransform", "0:1 0:2 9:6");
    b.fails("32767 0 [.5 0 0 1 0 0] itransform", 4, "itransform", "0:32767 0:0 9:6");
    b.fails("40000 0 transform", 4, "transform", "0:40000 0:0");
    b.fails("1 2 [1] dtransform", 4, "dtransform", "0:1 0:2 9:1");
    b.fails("1 (a) [1] dtransform", 3, "dtransform", "0:1 8:1 9:1");
  }

  private static String path(PaintTongue x) {
    StringBuilder all = new StringBuilder();
    for (int i = 0; x.part(i, 0) != PaintTongue.NONE; i++) {
      all.append(all.length() > 0 ? " " : "").append("mlcz".charAt(x.part(i, 0)));
      int places = x.part(i, 0) == 3 ? 0 : x.part(i, 0) == 2 ? 6 : 2;
      for (int k = 1; k <= places; k++) {
        all.append(k > 1 ? "," : "").append(x.part(i, k) / 65536.0);
      }
    }
    return all.toString();
  }

  private static void draws(Bench b, String text, String want) {
    PaintTongue x = Bench.ran(text);
    b.due("error of " + text, x.look(10), 0);
    b.due(text, path(x), want);
  }

  private static void paths(Bench b) {
    draws(b, "1 2 moveto 3 4 moveto 5 6 lineto", "m3.0,4.0 l5.0,6.0");
    draws(b, "1 2 moveto 1 1 rmoveto 1 1 rlineto 1 0 2 0 3 0 rcurveto", "m2.0,3.0 l3.0,4.0 c4.0,4.0,5.0,4.0,6.0,4.0");
    draws(b, "1 2 moveto 3 4 lineto closepath closepath 5 6 lineto", "m1.0,2.0 l3.0,4.0 z m1.0,2.0 l5.0,6.0");
    draws(b, "1 2 moveto 3 4 lineto closepath 1 1 rmoveto", "m1.0,2.0 l3.0,4.0 z m2.0,3.0");
    draws(b, "1 2 moveto closepath 1 2 3 4 5 6 curveto", "m1.0,2.0 z m1.0,2.0 c1.0,2.0,3.0,4.0,5.0,6.0");
    draws(b, "closepath", "");
    draws(b, "1 2 moveto newpath", "");
    draws(b, "2 2 scale 1 1 translate 3 4 moveto 1 1 rlineto", "m8.0,10.0 l10.0,12.0");
    draws(b, "-2000 2000 moveto", "m-2000.0,2000.0");
    b.prints("2 2 scale 1.5 -3 moveto currentpoint = = 5 5 lineto closepath currentpoint = =", "-3.0\n1.5\n-3.0\n1.5\n");
    for (String op : "lineto rmoveto rlineto".split(" ")) {
      b.fails("1 2 " + op, 15, op, "0:1 0:2");
      b.fails("40000 2 " + op, 15, op, "0:40000 0:2");
    }
    b.fails("1 2 3 4 5 6 curveto", 15, "curveto", "0:1 0:2 0:3 0:4 0:5 0:6");
    b.fails("currentpoint", 15, "currentpoint", "");
    b.fails("2000.1 0 moveto", 4, "moveto", "1:131078553 0:0");
    b.fails("2000 0 moveto 1 0 rlineto", 4, "rlineto", "0:1 0:0");
    b.fails("0 0 moveto 0 0 0 0 2001 0 curveto", 4, "curveto", "0:0 0:0 0:0 0:0 0:2001 0:0");
    b.fails("/a 0 moveto", 3, "moveto", "5:1 0:0");
    b.fails("1 1 moveto [0 0 0 0 0 0] setmatrix currentpoint", 6, "currentpoint", "");
    b.fails("9 9 moveto [0.0001 0 0 0.0001 0 0] setmatrix currentpoint", 4, "currentpoint", "");
  }

  private static void pathLimits(Bench b) {
    PaintTongue x = Bench.ran("0 0 moveto 299 {1 0 rlineto} repeat");
    b.due("300 points", x.look(12), 300);
    Bench.more(x, "1 1 lineto");
    b.due("a 301st", x.look(10), 14);
    Bench.more(x, "clear 5 5 moveto");
    b.due("a move too", x.look(10), 14);
    b.due("300 still", x.look(12), 300);
    x = Bench.ran("0 0 moveto 297 {1 0 rlineto} repeat closepath 1 1 lineto");
    b.due("a move ahead of a line", x.look(12), 300);
    x = Bench.ran("0 0 moveto 298 {1 0 rlineto} repeat closepath 1 1 lineto");
    b.due("no room for both", x.look(10), 14);
    b.due("none of them came", x.look(12), 299);
    x = Bench.ran("0 0 moveto 298 {1 0 rlineto} repeat 5 5 moveto 6 6 moveto");
    b.due("a move in the place of a move", x.look(10), 0);
    x = Bench.ran("0 0 moveto 297 {1 0 rlineto} repeat 1 1 2 2 3 3 curveto");
    b.due("a curve has three", x.look(10), 14);
  }

  private static void flattening(Bench b) {
    draws(b, "0 0 moveto 0 8 8 8 8 0 curveto closepath flattenpath",
        "m0.0,0.0 l0.34375,2.625 l1.25,4.5 l2.53125,5.625 l4.0,6.0 l5.46875,5.625 l6.75,4.5 l7.65625,2.625 l8.0,0.0 z");
    draws(b, "1 2 moveto 3 4 lineto flattenpath", "m1.0,2.0 l3.0,4.0");
    draws(b, "flattenpath", "");
    b.fails("0 0 moveto 40 {1 0 2 0 3 0 rcurveto} repeat flattenpath", 14, "flattenpath", "");
    b.due("37 curves", Bench.ran("0 0 moveto 37 {1 0 2 0 3 0 rcurveto} repeat flattenpath").look(12), 297);
    PaintTongue x = Bench.ran("0 0 moveto 0 0 -0.0001 0 -0.0001 0 curveto flattenpath");
    b.due("rounded down", x.part(1, 1), -1);
  }

  private static void boxes(Bench b) {
    b.prints("1 2 moveto 5 7 lineto -3 9 0 0 4 4 curveto pathbbox = = = =", "9.0\n5.0\n0.0\n-3.0\n");
    b.prints("2 4 moveto 6 8 lineto 90 rotate pathbbox = = = =", "-2.0\n8.0\n-6.0\n4.0\n");
    b.prints("0 0 moveto 4 4 lineto [1 0 1 1 0 0] setmatrix pathbbox = = = =", "4.0\n4.0\n0.0\n-4.0\n");
    b.fails("pathbbox", 15, "pathbbox", "");
    b.fails("1 1 moveto [1 1 1 1 0 0] setmatrix pathbbox", 6, "pathbbox", "");
  }

  private static void goingThrough(Bench b) {
    b.prints("2 2 scale 1 2 moveto 3 4 lineto 5 6 7 8 9 10 curveto closepath "
        + "{(m) print = =} {(l) print = =} {(c) print = = = = = =} {(z) print} pathforall",
        "m2.0\n1.0\nl4.0\n3.0\nc10.0\n9.0\n8.0\n7.0\n6.0\n5.0\nz");
    b.prints("1 1 moveto 2 2 lineto 3 3 lineto {pop pop newpath} {= = exit} {} {} pathforall", "2.0\n2.0\n");
    b.prints("{1 =} {2 =} {3 =} {4 =} pathforall", "");
    PaintTongue x = Bench.ran("1 1 moveto closepath {pop pop} {} {} {} pathforall");
    b.due("steps of two turns", x.look(11), 3 + 1 + 5 + 2 + 2);
    b.fails("{} {} {} 1 pathforall", 3, "pathforall", "9:0x 9:0x 9:0x 0:1");
    b.fails("1 1 moveto [0 0 0 0 0 0] setmatrix {} {} {} {} pathforall", 6, "pathforall", "9:0x 9:0x 9:0x 9:0x");
    x = Bench.ran("1 1 moveto 199 {0} repeat {} {} {} {} pathforall");
    b.due("no room for the procedures", x.look(10), 2);
  }

  private static void numbers(Bench b) {
    b.prints("2.5 setlinewidth currentlinewidth = .3 setgray currentgray = -1 setgray currentgray = 7 setgray currentgray =",
        "2.5\n0.29998\n0.0\n1.0\n");
    b.fails("-1 setlinewidth", 4, "setlinewidth", "0:-1");
    b.fails("40000 setgray", 4, "setgray", "0:40000");
    b.fails("3 setlinecap", 4, "setlinecap", "0:3");
    b.fails("-1 setlinejoin", 4, "setlinejoin", "0:-1");
    b.fails("1.0 setlinejoin", 3, "setlinejoin", "1:65536");
    b.fails(".9 setmiterlimit", 4, "setmiterlimit", "1:58982");
    b.fails("20.1 setmiterlimit", 4, "setmiterlimit", "1:1317273");
    b.due("the miter limit's bounds", Bench.ran("1 setmiterlimit 20 setmiterlimit").look(10), 0);
    b.fails("[1 2] setdots", 4, "setdots", "9:2");
    b.fails("[/a] setdots", 4, "setdots", "9:1");
    b.fails("[0 1 2 3 4 5 6 7 8 9 10 11 12 13 14 15.0] setdots", 3, "setdots", "9:16");
    b.fails("[0 1 2 3 4 5 6 7 8 9 10 11 12 13 14 14] setdots", 4, "setdots", "9:16");
    b.fails("[0 1 2 3 4 5 6 7 8 9 10 11 12 13 14 16] setdots", 4, "setdots", "9:16");
  }

  private static void keeping(Bench b) {
    b.prints(".5 setgray gsave 1 setgray 3 setlinewidth grestore currentgray = currentlinewidth = grestore currentgray =",
        "0.5\n1.0\n0.5\n");
    b.prints(".1 setgray gsave .2 setgray gsave .3 setgray gsave grestoreall currentgray =", "0.09999\n");
    PaintTongue x = Bench.ran(".25 setgray save gsave .5 setgray gsave grestoreall");
    b.due("as the save kept them", x.graphics(8), 16384);
    b.due("what it kept stays", x.look(3), 1);
    Bench.more(x, ".75 setgray grestore");
    b.due("grestore to a save", x.graphics(8), 16384);
    b.due("which stays", x.look(3), 1);
    Bench.more(x, "initgraphics 2 2 moveto gsave 3 3 lineto grestore");
    b.due("the path is kept", x.look(12), 1);
    x = Bench.ran("20 {gsave} repeat gsave");
    b.due("a 21st", x.look(10), 14);
    b.due("20 are kept", x.look(3), 20);
    b.fails("20 {gsave} repeat save", 14, "save", "");
    x = Bench.ran("[2 0 0 2 1 1] setmatrix 1 1 moveto .5 setgray 3 setlinewidth 5 setmiterlimit 1 1 moveto 2 2 lineto clip "
        + "initgraphics");
    int[] due = {65536, 0, 0, 65536, 0, 0, 0, 0, 0, 65536, 655360};
    for (int what = 0; what <= 10; what++) {
      if (what != 6 && what != 7) {
        b.due("initgraphics, " + what, x.graphics(what), due[what]);
      }
    }
    b.due("no path", x.look(12), 0);
    b.due("all pixels in the clip", x.look(14), 256);
  }
}
