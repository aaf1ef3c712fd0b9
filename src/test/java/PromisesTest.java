/** The promises one by one: ordinary inputs, the edges that the document names, and wrong inputs. */
public final class PromisesTest {
  private static final Check CHECK = new Check();
  private static final int NONE = LayerSlicer.NONE;

  public static void main(String[] args) {
    newObject();
    corner();
    tri();
    mendJoinsAndDrops();
    mendClosesHoles();
    mendLeavesWhatIsNoHole();
    mendKeepsTheLimit();
    mended();
    triangle();
    turn();
    layers();
    layersClearThePrint();
    cut();
    cutIsOfTheMeshThen();
    solid();
    solidAtTheVeryCentre();
    settings();
    kindOfSolidCells();
    kindOfOpenCells();
    paths();
    path();
    emit();
    byteOf();
    play();
    laid();
    overhang();
    volume();
    CHECK.end();
  }

  private static void due(String call, long got, long want) {
    CHECK.due(call, got, want);
  }

  private static void due(String call, boolean got, boolean want) {
    CHECK.due(call, got, want);
  }

  /** Cells 1 .. 6 both ways, in 5 layers of thickness 11. */
  private static LayerSlicer block() {
    LayerSlicer x = new LayerSlicer();
    Check.box(x, Check.at(10, 10, 0), Check.at(70, 70, 60));
    x.layers(11);
    return x;
  }

  private static LayerSlicer table() {
    return Check.table();
  }

  private static int disc(LayerSlicer x, int rim, int z) {
    return Check.disc(x, rim, z);
  }

  private static void trianglesAre(LayerSlicer x, int t, int a, int b, int c) {
    CHECK.triangleIs(x, t, a, b, c);
  }

  private static void newObject() {
    LayerSlicer x = new LayerSlicer();
    for (int what = 0; what <= 3; what++) {
      due("mended of a new object", x.mended(what), 0);
    }
    due("tri without corners", x.tri(0, 0, 0), NONE);
    due("triangle of a new object", x.triangle(0, 0), NONE);
    due("volume without layers", x.volume(0), 0);
    due("emit without layers", x.emit(), 0);
    due("layers without triangles", x.layers(1), 0);
    due("mend of nothing", x.mend(), 0);
    CHECK.cutThrows(new LayerSlicer(), 0, 0, 0, 0);
    LayerSlicer preset = table();
    LayerSlicer set = table();
    set.settings(1, 1, 2, 1, 0);
    for (int kind = 0; kind <= 6; kind++) {
      due("volume(" + kind + ") by the first settings", preset.volume(kind), set.volume(kind));
    }
    LayerSlicer block = block();
    int[] volumes = {540, 100, 32, 24, 24, 0, 0};
    for (int kind = 0; kind <= 6; kind++) {
      due("volume(" + kind + ") of a block by the first settings", block.volume(kind), volumes[kind]);
    }
  }

  private static void corner() {
    LayerSlicer x = new LayerSlicer();
    int[][] off = {{-1, 0, 0}, {0, -1, 0}, {0, 0, -1}, {121, 0, 0}, {0, 121, 0}, {0, 0, 121},
      {Integer.MIN_VALUE, 0, 0}, {0, Integer.MAX_VALUE, 0}};
    for (int[] c : off) {
      due("corner off the lattice", x.corner(c[0], c[1], c[2]), NONE);
    }
    due("corner(0, 0, 0)", x.corner(0, 0, 0), 0);
    due("corner(120, 120, 120)", x.corner(120, 120, 120), 1);
    due("a corner at the same place", x.corner(0, 0, 0), 2);
    for (int i = 3; i < 80; i++) {
      due("corner " + i, x.corner(i, 0, 0), i);
    }
    due("corner 80", x.corner(1, 1, 1), NONE);
    due("tri with the last corner", x.tri(79, 0, 1), 0);
    due("tri with the refused corner", x.tri(80, 0, 1), NONE);
  }

  private static void tri() {
    LayerSlicer x = new LayerSlicer();
    for (int i = 0; i < 3; i++) {
      x.corner(10 * i, i * i, 40 * i);
    }
    int[][] wrong = {{-1, 0, 1}, {0, -1, 1}, {0, 1, -1}, {3, 0, 1}, {0, 3, 1}, {0, 1, 3}, {Integer.MAX_VALUE, 0, 0}};
    for (int[] t : wrong) {
      due("tri of corners that are not there", x.tri(t[0], t[1], t[2]), NONE);
    }
    due("tri of one corner", x.tri(1, 1, 1), 0);
    due("layers", x.layers(41), 1);
    due("tri", x.tri(0, 1, 2), 1);
    CHECK.cutThrows(x, 0, 1, 0, 0);
    for (int i = 2; i < 120; i++) {
      due("tri " + i, x.tri(0, 1, 2), i);
    }
    due("tri 120", x.tri(0, 1, 2), NONE);
    due("mended(3)", x.mended(3), 120);
    due("layers anew", x.layers(41), 2);
    due("cut by the layer anew", x.cut(0, 1, 0, 0), 80);
  }

  private static void mendJoinsAndDrops() {
    LayerSlicer x = new LayerSlicer();
    x.corner(0, 0, 0);
    x.corner(50, 0, 0);
    x.corner(0, 50, 0);
    x.corner(50, 0, 0);
    x.corner(0, 50, 0);
    x.corner(100, 0, 0);
    x.corner(50, 0, 0);
    x.tri(0, 3, 4);
    x.tri(0, 1, 3);
    x.tri(0, 3, 5);
    x.tri(4, 3, 0);
    due("mend", x.mend(), 0);
    due("corners joined", x.mended(0), 2);
    due("triangles dropped", x.mended(1), 2);
    due("holes closed", x.mended(2), 0);
    due("triangles left", x.mended(3), 2);
    trianglesAre(x, 0, 0, 1, 2);
    trianglesAre(x, 1, 2, 1, 0);
    due("mend again", x.mend(), 0);
    due("corners joined by both", x.mended(0), 2);
    due("triangles dropped by both", x.mended(1), 2);
    LayerSlicer skew = new LayerSlicer();
    skew.corner(0, 0, 0);
    skew.corner(10, 20, 30);
    skew.corner(40, 80, 120);
    skew.corner(40, 80, 119);
    skew.tri(2, 0, 1);
    skew.tri(3, 0, 1);
    skew.mend();
    due("dropped on a skew line", skew.mended(1), 1);
    trianglesAre(skew, 0, 3, 0, 1);
  }

  private static void mendClosesHoles() {
    LayerSlicer x = new LayerSlicer();
    int first = Check.boxCorners(x, Check.at(10, 10, 0), Check.at(70, 70, 60));
    for (int i = 2; i < 12; i++) {
      int[] t = Check.BOX[i];
      x.tri(first + t[0], first + t[1], first + t[2]);
    }
    due("mend of a box without its bottom", x.mend(), 0);
    due("holes", x.mended(2), 1);
    due("triangles", x.mended(3), 12);
    // The open edges go 0, 1, 3, 2: the triangles are (v0, v2, v1) and (v0, v3, v2).
    trianglesAre(x, 10, 0, 3, 1);
    trianglesAre(x, 11, 0, 2, 3);
    LayerSlicer one = new LayerSlicer();
    one.corner(0, 0, 0);
    one.corner(50, 0, 0);
    one.corner(0, 50, 0);
    one.corner(0, 0, 50);
    one.tri(3, 1, 2);
    due("mend of one triangle", one.mend(), 0);
    trianglesAre(one, 1, 1, 3, 2);
    LayerSlicer sixteen = new LayerSlicer();
    disc(sixteen, 16, 0);
    due("mend of a disc of 16", sixteen.mend(), 0);
    due("triangles of it", sixteen.mended(3), 30);
    trianglesAre(sixteen, 16, 1, 15, 16);
    trianglesAre(sixteen, 29, 1, 2, 3);
    LayerSlicer two = new LayerSlicer();
    disc(two, 4, 0);
    disc(two, 3, 20);
    due("mend of two discs", two.mend(), 0);
    due("holes of both", two.mended(2), 2);
    trianglesAre(two, 7, 1, 3, 4);
    trianglesAre(two, 9, 6, 7, 8);
  }

  private static void mendLeavesWhatIsNoHole() {
    LayerSlicer seventeen = new LayerSlicer();
    disc(seventeen, 17, 0);
    due("mend of a disc of 17", seventeen.mend(), 17);
    due("holes of it", seventeen.mended(2), 0);
    due("triangles of it", seventeen.mended(3), 17);
    LayerSlicer twice = new LayerSlicer();
    twice.corner(0, 0, 0);
    twice.corner(50, 0, 0);
    twice.corner(0, 50, 0);
    twice.tri(0, 1, 2);
    twice.tri(0, 1, 2);
    due("mend of edges open twice", twice.mend(), 6);
    LayerSlicer bow = new LayerSlicer();
    for (int i = 0; i < 5; i++) {
      bow.corner(10 * i, 5 * i * i, 0);
    }
    bow.tri(0, 1, 2);
    bow.tri(2, 3, 4);
    due("mend of two triangles with a common corner", bow.mend(), 6);
    LayerSlicer next = new LayerSlicer();
    disc(next, 17, 0);
    disc(next, 3, 20);
    due("mend goes on behind a corner left out", next.mend(), 17);
    due("the other hole is closed", next.mended(2), 1);
    LayerSlicer paired = new LayerSlicer();
    for (int i = 0; i < 5; i++) {
      paired.corner(10 * i, 5 * i * i, 0);
    }
    // Two triangles opposite to one another have no open edge, so just one edge is open from corner 0.
    paired.tri(0, 1, 2);
    paired.tri(0, 3, 4);
    paired.tri(0, 4, 3);
    due("edges that go both ways are not open", paired.mend(), 0);
    due("so one hole is closed", paired.mended(2), 1);
    trianglesAre(paired, 3, 0, 2, 1);
  }

  private static void mendKeepsTheLimit() {
    for (int rest = 106; rest <= 107; rest++) {
      LayerSlicer x = new LayerSlicer();
      disc(x, 16, 0);
      int a = x.corner(0, 0, 50);
      int b = x.corner(50, 0, 50);
      int c = x.corner(0, 50, 50);
      for (int i = 16; i + 1 < rest; i += 2) {
        x.tri(a, b, c);
        x.tri(c, b, a);
      }
      if (rest == 107) {
        x.tri(a, b, c);
      }
      due("triangles", x.mended(3), rest);
      // 106 and 14 are 120; with 107 the long hole must stay, and the short one behind it is closed.
      due("mend at the limit", x.mend(), rest == 106 ? 0 : 16);
      due("triangles then", x.mended(3), rest == 106 ? 120 : 108);
      due("holes then", x.mended(2), 1);
    }
  }

  private static void mended() {
    LayerSlicer x = new LayerSlicer();
    due("mended(-1)", x.mended(-1), NONE);
    due("mended(4)", x.mended(4), NONE);
    x.corner(0, 0, 0);
    x.corner(50, 0, 0);
    x.corner(0, 50, 0);
    x.corner(0, 50, 0);
    x.tri(0, 1, 2);
    due("triangles before mending", x.mended(3), 1);
    x.mend();
    due("a corner that no triangle names is not joined", x.mended(0), 0);
    due("a hole", x.mended(2), 1);
    x.tri(1, 1, 3);
    x.mend();
    due("joined in all", x.mended(0), 1);
    due("dropped in all", x.mended(1), 1);
    due("holes in all", x.mended(2), 1);
    due("triangles now", x.mended(3), 2);
  }

  private static void triangle() {
    LayerSlicer x = new LayerSlicer();
    x.corner(0, 0, 0);
    x.corner(50, 0, 0);
    x.corner(0, 50, 0);
    x.tri(2, 0, 1);
    trianglesAre(x, 0, 2, 0, 1);
    due("triangle(-1, 0)", x.triangle(-1, 0), NONE);
    due("triangle(1, 0)", x.triangle(1, 0), NONE);
    due("triangle(0, -1)", x.triangle(0, -1), NONE);
    due("triangle(0, 3)", x.triangle(0, 3), NONE);
    due("triangle(greatest, 0)", x.triangle(Integer.MAX_VALUE, 0), NONE);
  }

  private static LayerSlicer leaf() {
    LayerSlicer x = new LayerSlicer();
    x.corner(10, 20, 0);
    x.corner(10, 20, 100);
    x.corner(50, 60, 100);
    x.tri(0, 1, 2);
    return x;
  }

  private static void endIs(LayerSlicer x, int layer, int end, int denominator, int atX, int atY) {
    due("denominator of end " + end, x.cut(layer, 0, end, 0), denominator);
    due("x of end " + end, x.cut(layer, 0, end, 1), atX);
    due("y of end " + end, x.cut(layer, 0, end, 2), atY);
  }

  private static void turn() {
    int[][] wrong = {{-1, 0}, {3, 0}, {0, -1}, {0, 4}, {Integer.MIN_VALUE, 1}};
    LayerSlicer same = leaf();
    for (int[] w : wrong) {
      due("turn(" + w[0] + ", " + w[1] + ")", same.turn(w[0], w[1]), false);
    }
    due("turn(0, 0)", same.turn(0, 0), true);
    for (int axis = 0; axis < 3; axis++) {
      due("turn(" + axis + ", 1)", same.turn(axis, 1), true);
      due("turn(" + axis + ", 3)", same.turn(axis, 3), true);
    }
    due("layers of what is turned back", same.layers(41), 2);
    endIs(same, 0, 0, 200, 2000, 4000);
    LayerSlicer aboutX = leaf();
    aboutX.turn(0, 1);
    due("layers turned about x", aboutX.layers(41), 1);
    endIs(aboutX, 0, 0, 80, 840, 1600);
    endIs(aboutX, 0, 1, 80, 840, 9500);
    LayerSlicer aboutY = leaf();
    aboutY.turn(1, 1);
    due("layers turned about y", aboutY.layers(41), 3);
    endIs(aboutY, 2, 0, 80, 8000, 2200);
    endIs(aboutY, 2, 1, 80, 1500, 2200);
    LayerSlicer aboutZ = leaf();
    aboutZ.turn(2, 1);
    due("layers turned about z", aboutZ.layers(41), 2);
    endIs(aboutZ, 0, 0, 200, 20000, 2000);
    aboutZ.turn(2, 2);
    endIs(aboutZ, 0, 0, 200, 20000, 2000);
    aboutZ.layers(41);
    endIs(aboutZ, 0, 0, 200, 4000, 22000);
  }

  private static void layers() {
    LayerSlicer x = block();
    for (int thickness : new int[] {-1, 0, 2, 40, 42, 43, Integer.MIN_VALUE, Integer.MAX_VALUE}) {
      due("layers(" + thickness + ")", x.layers(thickness), NONE);
      due("the layers stay", x.solid(4, 3, 3), 1);
      due("and there are 5", x.solid(5, 3, 3), 0);
    }
    due("layers(41)", x.layers(41), 1);
    due("layers(1) of 60", x.layers(1), 24);
    due("layers(3) of 60", x.layers(3), 20);
    due("layers(5) of 60", x.layers(5), 12);
    LayerSlicer low = new LayerSlicer();
    low.corner(0, 0, 1);
    low.corner(0, 90, 0);
    low.corner(0, 0, 120);
    low.tri(0, 1, 1);
    due("only corners of triangles count", low.layers(1), 1);
    due("the height must be below", low.layers(3), 0);
    low.tri(0, 1, 2);
    due("layers(39) of 120", low.layers(39), 3);
    due("layers(5) of 120", low.layers(5), 24);
  }

  private static void layersClearThePrint() {
    LayerSlicer x = block();
    x.emit();
    x.play(1000);
    due("a bead", x.laid(0, 1, 1), 1);
    due("layers(2)", x.layers(2), NONE);
    due("refused layers change nothing", x.laid(0, 1, 1), 1);
    due("nor the program", x.byteOf(0), 200);
    due("layers(11)", x.layers(11), 5);
    due("no bead then", x.laid(0, 1, 1), 0);
    due("nothing to play then", x.play(1000), 0);
    due("no program then", x.byteOf(0), NONE);
  }

  private static void cut() {
    LayerSlicer x = leaf();
    x.tri(2, 1, 0);
    x.tri(1, 2, 1);
    due("layers", x.layers(41), 2);
    endIs(x, 0, 0, 200, 2000, 4000);
    endIs(x, 0, 1, 200, 10 * 200 + 40 * 41, 20 * 200 + 40 * 41);
    endIs(x, 1, 1, 200, 10 * 200 + 40 * 123, 20 * 200 + 40 * 123);
    due("the first edge that is cut is b c", x.cut(0, 1, 0, 1), 2000);
    due("the second is c a", x.cut(0, 1, 1, 1), 3640);
    CHECK.cutThrows(x, 0, 2, 0, 0);
    CHECK.cutThrows(x, -1, 0, 0, 0);
    CHECK.cutThrows(x, 2, 0, 0, 0);
    CHECK.cutThrows(x, 0, -1, 0, 0);
    CHECK.cutThrows(x, 0, 3, 0, 0);
    CHECK.cutThrows(x, 0, 0, -1, 0);
    CHECK.cutThrows(x, 0, 0, 2, 0);
    CHECK.cutThrows(x, 0, 0, 0, -1);
    CHECK.cutThrows(x, 0, 0, 0, 3);
    CHECK.cutThrows(x, Integer.MAX_VALUE, Integer.MAX_VALUE, 0, 0);
  }

  private static void cutIsOfTheMeshThen() {
    LayerSlicer x = leaf();
    x.tri(0, 0, 0);
    x.tri(1, 2, 0);
    x.layers(41);
    x.turn(1, 2);
    x.mend();
    due("a triangle less", x.mended(3), 2);
    endIs(x, 0, 0, 200, 2000, 4000);
    due("triangle 2 as it was", x.cut(0, 2, 1, 1), 2000);
    CHECK.cutThrows(x, 0, 1, 0, 0);
    x.layers(41);
    CHECK.cutThrows(x, 0, 2, 0, 0);
  }

  private static void solid() {
    LayerSlicer x = block();
    for (int layer = -1; layer <= 5; layer++) {
      for (int i = -1; i <= 12; i++) {
        int want = layer >= 0 && layer < 5 && i >= 1 && i <= 6 ? 1 : 0;
        due("solid(" + layer + ", " + i + ", 3)", x.solid(layer, i, 3), want);
        due("solid(" + layer + ", 3, " + i + ")", x.solid(layer, 3, i), want);
      }
    }
    due("solid far off", x.solid(Integer.MAX_VALUE, 0, 0), 0);
    due("solid(0, least, 3)", x.solid(0, Integer.MIN_VALUE, 3), 0);
    due("solid(0, 33, 3)", x.solid(0, 33, 3), 0);
    due("solid(0, 3, greatest)", x.solid(0, 3, Integer.MAX_VALUE), 0);
    LayerSlicer hollow = new LayerSlicer();
    Check.box(hollow, Check.at(0, 0, 0), Check.at(120, 120, 30));
    Check.box(hollow, Check.at(50, 50, 0), Check.at(70, 70, 30));
    due("layers of a box with a shaft", hollow.layers(41), 1);
    due("solid in the wall", hollow.solid(0, 4, 5), 1);
    due("open in the shaft", hollow.solid(0, 5, 5), 0);
    due("solid behind it", hollow.solid(0, 7, 5), 1);
    due("solid at the edge", hollow.solid(0, 11, 11), 1);
  }

  /** Cuts through the very centres of cells, which are half a step off the lattice. */
  private static void solidAtTheVeryCentre() {
    LayerSlicer x = new LayerSlicer();
    // At the height 0.5 the ends of the cut are at (4.5, 4.5) and (14.5, 14.5).
    x.corner(4, 4, 0);
    x.corner(5, 5, 1);
    x.corner(24, 24, 0);
    x.tri(0, 1, 2);
    due("layers", x.layers(1), 1);
    due("denominator", x.cut(0, 0, 0, 0), 2);
    due("x of the first end", x.cut(0, 0, 0, 1), 9);
    due("x of the second end", x.cut(0, 0, 1, 1), 29);
    due("an end at the row's height counts as below; a line through the centre is not left of it", x.solid(0, 0, 0), 0);
    due("but it is left of the next cell", x.solid(0, 1, 0), 1);
    due("the upper end at the row's height counts as below too", x.solid(0, 2, 1), 0);
    LayerSlicer left = new LayerSlicer();
    left.corner(3, 4, 0);
    left.corner(5, 5, 1);
    left.corner(3, 24, 0);
    left.tri(0, 1, 2);
    left.layers(1);
    due("a line half a step to the left", left.solid(0, 0, 0), 1);
  }

  private static void settings() {
    LayerSlicer x = block();
    int[][] wrong = {{-1, 1, 2, 1, 0}, {4, 1, 2, 1, 0}, {1, -1, 2, 1, 0}, {1, 4, 2, 1, 0}, {1, 1, -1, 1, 0},
      {1, 1, 7, 1, 0}, {1, 1, 2, -1, 0}, {1, 1, 2, 4, 0}, {1, 1, 2, 1, -1}, {1, 1, 2, 1, 3}};
    for (int[] w : wrong) {
      due("settings that are not as said", x.settings(w[0], w[1], w[2], w[3], w[4]), false);
      due("change nothing", x.volume(1), 100);
      due("nothing at all", x.volume(3), 24);
    }
    due("the greatest settings", x.settings(3, 3, 6, 3, 2), true);
    due("a block all of shell", x.volume(1), 180);
    due("the least settings", x.settings(0, 0, 0, 0, 0), true);
    due("a block all of gap", x.volume(4), 180);
  }

  private static void kindOfSolidCells() {
    LayerSlicer x = block();
    due("shell at a corner", x.kind(0, 1, 1), 1);
    due("skin below", x.kind(0, 2, 2), 2);
    due("skin above", x.kind(4, 5, 5), 2);
    due("line in an odd layer, by y", x.kind(1, 3, 2), 3);
    due("gap in an odd layer", x.kind(1, 2, 3), 4);
    due("line in an even layer, by x", x.kind(2, 2, 3), 3);
    due("gap in an even layer", x.kind(2, 3, 2), 4);
    x.settings(2, 2, 3, 1, 0);
    due("shell of 2", x.kind(2, 2, 3), 1);
    due("inside a shell of 2, skin of 2", x.kind(1, 3, 3), 2);
    due("the middle layer is no skin", x.kind(2, 3, 4), 3);
    due("period 3", x.kind(2, 4, 3), 4);
    x.settings(0, 0, 1, 1, 0);
    due("no shell, no skin, all lines", x.kind(0, 1, 1), 3);
    x.settings(0, 3, 0, 1, 0);
    due("skin of 3 on both sides", x.volume(2), 180);
    due("kind outside", x.kind(0, -1, 3), 0);
    due("kind(0, 12, 3)", x.kind(0, 12, 3), 0);
    due("kind(0, 33, 3)", x.kind(0, 33, 3), 0);
    due("kind(0, 3, -1)", x.kind(0, 3, -1), 0);
    due("kind(0, 3, 12)", x.kind(0, 3, 12), 0);
    due("kind(-1, 3, 3)", x.kind(-1, 3, 3), 0);
    due("kind(5, 3, 3)", x.kind(5, 3, 3), 0);
    LayerSlicer edge = new LayerSlicer();
    Check.box(edge, Check.at(0, 0, 0), Check.at(120, 120, 60));
    edge.layers(11);
    due("what is outside is open: shell at the edge", edge.kind(2, 0, 6), 1);
    due("no shell one cell on", edge.kind(2, 1, 6), 4);
    edge.turn(0, 1);
    edge.layers(1);
    due("above the 24th layer all is open", edge.kind(23, 5, 8), 2);
  }

  private static void kindOfOpenCells() {
    LayerSlicer x = table();
    due("open beside the pillar, under no cell that hangs", x.kind(3, 4, 2), 0);
    due("support under the plate", x.kind(3, 5, 2), 5);
    due("support down to the bottom", x.kind(0, 9, 3), 5);
    due("none beside the plate", x.kind(0, 10, 3), 0);
    x.settings(1, 1, 2, 1, 2);
    due("a gap of 2", x.kind(3, 5, 2), 6);
    due("support behind it", x.kind(3, 6, 2), 5);
    x.settings(1, 1, 2, 0, 1);
    due("reach 0: under the next cell too, in the gap", x.kind(3, 4, 2), 6);
    x.settings(1, 1, 2, 3, 0);
    due("reach 3", x.kind(3, 6, 2), 0);
    due("behind the reach", x.kind(3, 7, 2), 5);
    LayerSlicer floor = table();
    Check.box(floor, Check.at(70, 10, 0), Check.at(90, 40, 20));
    floor.layers(11);
    due("support stands on what is solid", floor.kind(2, 7, 2), 5);
    due("which is shell", floor.kind(1, 7, 2), 1);
    LayerSlicer floating = new LayerSlicer();
    Check.box(floating, Check.at(10, 10, 20), Check.at(40, 40, 30));
    Check.box(floating, Check.at(10, 10, 40), Check.at(40, 40, 60));
    floating.layers(11);
    due("support under the lower plate", floating.kind(1, 2, 2), 5);
    due("support between the plates", floating.kind(3, 2, 2), 5);
    due("support in all", floating.volume(5), 27);
  }

  private static void paths() {
    LayerSlicer x = block();
    due("paths(0)", x.paths(0), 14);
    due("paths(1)", x.paths(1), 12);
    due("paths(2)", x.paths(2), 2 + 4 * 4);
    due("paths(-1)", x.paths(-1), 0);
    due("paths(5)", x.paths(5), 0);
    x.settings(0, 0, 0, 1, 0);
    due("gaps are no paths", x.paths(0), 0);
    x.settings(0, 0, 1, 1, 0);
    due("a path a row", x.paths(0), 6);
    LayerSlicer table = table();
    due("shell, skin, shell; support", table.paths(0), 8);
    table.settings(1, 1, 2, 1, 2);
    due("support gaps are no paths", table.path(0, 1, 1), 6);
  }

  private static void pathIs(LayerSlicer x, int layer, int i, int... want) {
    for (int what = 0; what < 4; what++) {
      due("path(" + layer + ", " + i + ", " + what + ")", x.path(layer, i, what), want[what]);
    }
  }

  private static void path() {
    LayerSlicer x = block();
    pathIs(x, 0, 0, 1, 1, 1, 6);
    pathIs(x, 0, 1, 1, 1, 2, 1);
    pathIs(x, 0, 2, 2, 2, 2, 4);
    pathIs(x, 0, 13, 1, 1, 6, 6);
    pathIs(x, 1, 2, 3, 2, 2, 4);
    pathIs(x, 2, 3, 3, 4, 2, 1);
    CHECK.pathThrows(x, 0, 14, 0);
    CHECK.pathThrows(x, 0, -1, 0);
    CHECK.pathThrows(x, 0, 0, -1);
    CHECK.pathThrows(x, 0, 0, 4);
    CHECK.pathThrows(x, -1, 0, 0);
    CHECK.pathThrows(x, 5, 0, 0);
    CHECK.pathThrows(x, 0, Integer.MAX_VALUE, 0);
    pathIs(table(), 0, 1, 5, 5, 1, 5);
  }

  private static void emit() {
    LayerSlicer x = block();
    int commands = 14 + 12 + 18 + 12 + 14;
    due("emit", x.emit(), 5 + 5 * commands);
    due("all of it is still to be played", x.play(1000), 5 + commands);
    due("emit again", x.emit(), 5 + 5 * commands);
    due("nothing is laid", x.laid(0, 1, 1), 0);
    due("nothing is played", x.play(1000), 5 + commands);
    x.settings(0, 0, 0, 1, 0);
    due("the program stays until it is made anew", x.byteOf(5), 6);
    due("so do the beads", x.laid(0, 1, 1), 1);
    due("emit without paths", x.emit(), 5);
    due("the bytes before are gone", x.byteOf(5), NONE);
  }

  private static void byteOf() {
    LayerSlicer x = block();
    due("byteOf without a program", x.byteOf(0), NONE);
    int length = x.emit();
    int[] begin = {200, 201, 1, 1, 1, 6, 201, 1, 2, 1, 1, 201, 2, 2, 2, 4};
    for (int i = 0; i < begin.length; i++) {
      due("byteOf(" + i + ")", x.byteOf(i), begin[i]);
    }
    due("layer 1", x.byteOf(1 + 5 * 14), 200);
    due("the last byte", x.byteOf(length - 1), 6);
    due("behind the last byte", x.byteOf(length), NONE);
    due("byteOf(-1)", x.byteOf(-1), NONE);
    due("byteOf(greatest)", x.byteOf(Integer.MAX_VALUE), NONE);
  }

  private static void play() {
    LayerSlicer x = block();
    due("play without a program", x.play(5), 0);
    x.emit();
    due("play(0)", x.play(0), 0);
    due("play(-1)", x.play(-1), 0);
    due("play(1)", x.play(1), 1);
    due("going up lays nothing", x.laid(0, 1, 1), 0);
    due("play(2)", x.play(2), 2);
    due("the first row", x.laid(0, 6, 1), 1);
    due("the second one", x.laid(0, 1, 2), 1);
    due("no more", x.laid(0, 2, 2), 0);
    due("play(greatest)", x.play(Integer.MAX_VALUE), 72);
    due("play behind the end", x.play(1), 0);
  }

  private static LayerSlicer printedBlock() {
    LayerSlicer x = block();
    x.emit();
    x.play(1000);
    return x;
  }

  private static void laid() {
    for (int layer = 0; layer < 5; layer++) {
      // An object for each layer, as it has 512 calls.
      LayerSlicer printed = printedBlock();
      for (int i = 0; i < 144; i++) {
        int kind = printed.kind(layer, i % 12, i / 12);
        due("laid on kind " + kind, printed.laid(layer, i % 12, i / 12), kind >= 1 && kind <= 3 ? 1 : 0);
      }
    }
    LayerSlicer x = printedBlock();
    int[][] outside = {{-1, 1, 1}, {5, 1, 1}, {24, 1, 1}, {0, -1, 2}, {0, 12, 1}, {0, 1, -1}, {0, 1, 12},
      {Integer.MAX_VALUE, 1, 1}, {0, Integer.MIN_VALUE, 1}};
    for (int[] o : outside) {
      due("laid outside", x.laid(o[0], o[1], o[2]), 0);
    }
    LayerSlicer table = table();
    table.emit();
    table.play(1000);
    due("support is laid", table.laid(0, 9, 3), 1);
  }

  private static void overhang() {
    LayerSlicer x = table();
    due("overhang(4)", x.overhang(4), 15);
    due("overhang(3)", x.overhang(3), 0);
    due("overhang(-1)", x.overhang(-1), 0);
    due("overhang(5)", x.overhang(5), 0);
    x.settings(1, 1, 2, 0, 0);
    due("overhang with reach 0", x.overhang(4), 18);
    x.settings(1, 1, 2, 3, 0);
    due("overhang with reach 3", x.overhang(4), 9);
    due("nothing hangs in layer 0", x.overhang(0), 0);
  }

  private static void volume() {
    LayerSlicer x = table();
    due("volume(5)", x.volume(5), 60);
    due("volume(6)", x.volume(6), 0);
    x.settings(1, 1, 2, 1, 2);
    due("volume(5) with a gap", x.volume(5), 48);
    due("volume(6) with a gap", x.volume(6), 12);
    int sum = 0;
    for (int kind = 0; kind <= 6; kind++) {
      sum += x.volume(kind);
    }
    due("all kinds", sum, 5 * 144);
    due("volume(-1)", x.volume(-1), NONE);
    due("volume(7)", x.volume(7), NONE);
    due("volume(greatest)", x.volume(Integer.MAX_VALUE), NONE);
  }
}
