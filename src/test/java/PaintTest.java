/** PART 5's painting: what is inside, dots, clips, strokes, images. */
public final class PaintTest {
  public static void main(String[] args) {
    Bench b = new Bench("PaintTest");
    fills(b);
    costs(b);
    dots(b);
    clips(b);
    strokes(b);
    pagesOut(b);
    images(b);
    imageErrors(b);
    masks(b);
    b.close();
  }

  private static void shows(Bench b, int side, String text, String want) {
    PaintTongue x = Bench.ran(side, side, text);
    b.due("error of " + text, x.look(10), 0);
    b.due(text, Bench.rows(x, -1, side), want);
  }

  private static void fills(Bench b) {
    shows(b, 8, "1 1 moveto 5 1 lineto 5 4 lineto 1 4 lineto fill",
        "........\n........\n........\n........\n.####...\n.####...\n.####...\n........\n");
    String nested = "0 0 moveto 6 0 lineto 6 6 lineto 0 6 lineto closepath 2 2 moveto 4 2 lineto 4 4 lineto 2 4 lineto ";
    shows(b, 8, nested + "fill", "........\n........\n######..\n######..\n######..\n######..\n######..\n######..\n");
    shows(b, 8, nested + "eofill", "........\n........\n######..\n######..\n##..##..\n##..##..\n######..\n######..\n");
    shows(b, 8, "0 0 moveto 6 0 lineto 6 6 lineto 0 6 lineto closepath 2 2 moveto 2 4 lineto 4 4 lineto 4 2 lineto fill",
        "........\n........\n######..\n######..\n##..##..\n##..##..\n######..\n######..\n");
    // An edge through a pixel's middle: that pixel is at the edge's left, the lower place counts, the higher doesn't.
    shows(b, 8, "1.5 1.5 moveto 3.5 1.5 lineto 3.5 3.5 lineto 1.5 3.5 lineto fill",
        "........\n........\n........\n........\n........\n..##....\n..##....\n........\n");
    shows(b, 8, "fill 3 3 moveto fill 1 1 moveto 5 5 lineto fill", "........\n".repeat(8));
    b.due("no path behind fill", Bench.ran("1 1 moveto 2 2 lineto fill").look(16), 0);
  }

  private static void costs(Bench b) {
    String triangle = "1 1 moveto 5 1 lineto 5 5 lineto ";
    b.due("fill", Bench.ran(triangle + "fill").look(11), 10 + 3);
    b.due("fill of two parts", Bench.ran(triangle + "closepath 7 7 moveto fill").look(11), 14 + 4);
    b.due("eofill of a curve", Bench.ran("1 1 moveto 1 2 3 4 5 6 curveto eofill").look(11), 11 + 9);
    b.due("clip", Bench.ran(triangle + "clip").look(11), 10 + 3);
    b.due("stroke", Bench.ran(triangle + "stroke").look(11), 10 + 60);
    b.due("fill without a path", Bench.ran("fill").look(11), 1);
  }

  private static void dots(Bench b) {
    String box = "0 0 moveto 8 0 lineto 8 8 lineto 0 8 lineto fill";
    int[] due = {64, 60, 56, 32, 4, 0};
    String[] greys = {"0", ".0625", ".125", ".5", ".9375", "1"};
    for (int i = 0; i < due.length; i++) {
      b.due("grey " + greys[i], Bench.ran(8, 8, greys[i] + " setgray " + box).look(13), due[i]);
    }
    shows(b, 8, ".9375 setgray " + box, "#...#...\n........\n........\n........\n#...#...\n........\n........\n........\n");
    shows(b, 8, "[15 14 13 12 11 10 9 8 7 6 5 4 3 2 1 0] setdots .75 setgray " + box,
        "........\n........\n........\n########\n........\n........\n........\n########\n");
    shows(b, 8, box + " .5 setgray " + box.replace('8', '2'),
        "########\n########\n########\n########\n########\n########\n#.######\n.#######\n");
  }

  private static void clips(Bench b) {
    String box = "0 0 moveto 8 0 lineto 8 8 lineto 0 8 lineto ";
    PaintTongue x = Bench.ran(8, 8, "1 1 moveto 4 1 lineto 4 4 lineto 1 4 lineto clip");
    b.due("pixels in the clip", x.look(14), 9);
    b.due("the path stays", x.look(12), 4);
    Bench.more(x, "newpath 2 0 moveto 9 0 lineto 9 9 lineto 2 9 lineto clip newpath " + box + "fill");
    b.due("what is in both", x.look(14), 6);
    b.due("is painted", x.look(13), 6);
    Bench.more(x, "initclip " + box + "fill");
    b.due("all", x.look(13), 64);
    b.due("a clip without a path", Bench.ran("clip").look(14), 0);
    x = Bench.ran(8, 8, box + "2 2 moveto 4 2 lineto 4 4 lineto 2 4 lineto eoclip");
    b.due("even-odd", x.look(14), 60);
    x = Bench.ran(8, 8, "gsave 1 1 moveto 4 1 lineto 4 4 lineto clip grestore");
    b.due("kept with the graphics", x.look(14), 64);
    x = Bench.ran(8, 8, "1 1 moveto 4 1 lineto 4 4 lineto clip erasepage newpath " + box + "fill initgraphics erasepage");
    b.due("erasepage takes no clip", x.look(13), 0);
  }

  private static void strokes(Bench b) {
    shows(b, 8, "1 4 moveto 6 4 lineto 2 setlinewidth stroke",
        "........\n........\n........\n.#####..\n.#####..\n........\n........\n........\n");
    shows(b, 8, "2 4 moveto 5 4 lineto 2 setlinewidth 2 setlinecap stroke",
        "........\n........\n........\n.#####..\n.#####..\n........\n........\n........\n");
    shows(b, 8, "1 1 moveto 6 1 lineto 6 6 lineto 2 setlinewidth 2 setlinejoin stroke",
        "........\n........\n.....##.\n.....##.\n.....##.\n.....##.\n.######.\n.######.\n");
    shows(b, 8, "1 1 moveto 6 1 lineto 6 6 lineto 2 setlinewidth stroke",
        "........\n........\n.....##.\n.....##.\n.....##.\n.....##.\n.######.\n.######.\n");
    shows(b, 8, "4 4 moveto 4 4 lineto 3 setlinewidth 1 setlinecap stroke",
        "........\n........\n........\n...##...\n...##...\n........\n........\n........\n");
    b.due("a lone move", Bench.ran("4 4 moveto 5 setlinewidth 1 setlinecap stroke").look(13), 0);
    b.due("a point without round ends", Bench.ran("4 4 moveto closepath 5 setlinewidth stroke").look(13), 0);
    b.due("a closed point with round ends", Bench.ran("4 4 moveto closepath 4 setlinewidth 1 setlinecap stroke").look(13), 12);
    b.due("no path behind stroke", Bench.ran("1 1 moveto 2 2 lineto stroke").look(16), 0);
    b.due("a line of no width is half a pixel's", Bench.ran("0 .5 moveto 9 .5 lineto 0 setlinewidth stroke").look(13), 9);
  }

  private static void pagesOut(Bench b) {
    PaintTongue x = Bench.ran(8, 8, ".5 setgray 0 0 moveto 8 0 lineto 8 8 lineto 0 8 lineto fill 1 1 moveto showpage");
    b.due("the page is out", x.look(9), 1);
    b.due("erased", x.look(13), 0);
    b.due("initgraphics", x.graphics(8), 0);
    b.due("no path", x.look(16), 0);
    b.due("what was painted", x.pixel(0, 0, 0) + x.pixel(0, 1, 0), 1);
  }

  private static void images(Bench b) {
    shows(b, 8, "4 2 1 [1 0 0 1 0 0] {<50a0>} image",
        "........\n........\n........\n........\n........\n........\n.#.#....\n#.#.....\n");
    shows(b, 8, "4 2 1 [.5 0 0 .5 0 0] {<50a0>} image",
        "........\n........\n........\n........\n..##..##\n..##..##\n##..##..\n##..##..\n");
    // Grey samples of two, four and eight bits: 0 is black, the greatest is white.
    shows(b, 8, "4 1 2 matrix {<33>} image", "........\n".repeat(7) + "#.#.....\n");
    shows(b, 8, "2 1 4 matrix {<0f>} image", "........\n".repeat(7) + "#.......\n");
    shows(b, 8, "2 1 8 matrix {<00>} image", "........\n".repeat(7) + "##......\n");
    // Bytes come by ones, further ones are passed; an empty string is the end.
    shows(b, 8, "/n 0 def 8 3 1 matrix {/n n 1 add def n 1 eq {<00>} {<0f00ffff>} ifelse} image n =",
        "........\n........\n........\n........\n........\n########\n####....\n########\n");
    shows(b, 8, "/n 0 def 8 3 1 matrix {/n n 1 add def n 1 eq {<00>} {<>} ifelse} image",
        "........\n".repeat(7) + "########\n");
    shows(b, 8, "[2 0 0 2 1 1] setmatrix 2 2 1 [1 0 0 1 0 0] {<0000>} image",
        "........\n........\n........\n.####...\n.####...\n.####...\n.####...\n........\n");
    PaintTongue x = Bench.ran(8, 8, "4 3 1 matrix {<000000>} image");
    b.due("steps: five operands, image, a turn, a string, three rows", x.look(11), 6 + 2 + 3);
    x = Bench.ran(8, 8, "8 8 1 matrix {0 0 moveto 2 0 lineto 2 2 lineto 0 2 lineto clip "
        + "[9 0 0 9 9 9] setmatrix <0000000000000000>} image");
    b.due("the clip of when it paints, the matrix of when it began", x.look(13), 4);
  }

  private static void imageErrors(Bench b) {
    b.fails("0 1 1 matrix {} image", 4, "image", "0:0 0:1 0:1 9:6 9:0x");
    b.fails("1 65 1 matrix {} image", 4, "image", "0:1 0:65 0:1 9:6 9:0x");
    b.fails("1 1 3 matrix {} image", 4, "image", "0:1 0:1 0:3 9:6 9:0x");
    b.fails("1 1 1 [1] {} image", 4, "image", "0:1 0:1 0:1 9:1 9:0x");
    b.fails("1.0 1 1 [1] {} image", 3, "image", "1:65536 0:1 0:1 9:1 9:0x");
    b.fails("1 1 1 matrix [] image", 3, "image", "0:1 0:1 0:1 9:6 9:0");
    b.fails("[1 1 1 1 0 0] setmatrix 1 1 1 matrix {} image", 6, "image", "0:1 0:1 0:1 9:6 9:0x");
    b.fails("1 1 true 1 1 1 matrix {} imagemask", 3, "imagemask", "0:1 0:1 2:1 0:1 0:1 0:1 9:6 9:0x");
    b.fails("1 1 1 matrix {} image", 1, "image", "");
    b.fails("1 1 1 matrix {5} image", 3, "image", "0:5");
    b.fails("1 1 1 matrix {exit} image", 11, "exit", "");
    PaintTongue x = Bench.ran("{1 1 1 matrix {clear} image} stopped");
    b.due("nothing is painted then", x.look(13), 0);
    b.due("it can be caught", Bench.operands(x), "2:1");
    b.due("nothing is under way", x.look(2), 0);
  }

  private static void masks(Bench b) {
    shows(b, 8, "4 1 true matrix {<50>} imagemask", "........\n".repeat(7) + ".#.#....\n");
    shows(b, 8, "4 1 false matrix {<50>} imagemask", "........\n".repeat(7) + "#.#.....\n");
    shows(b, 8, "0 0 moveto 8 0 lineto 8 1 lineto 0 1 lineto fill 1 setgray 4 1 true matrix {0 setgray <50>} imagemask",
        "........\n".repeat(7) + "#.#.####\n");
  }
}
