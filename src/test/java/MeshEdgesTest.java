/** Promises 1 to 8 at their edges: every sentence that names a limit, from both sides and from far outside. */
public final class MeshEdgesTest {
  private static final Check CHECK = new Check();
  private static final int NONE = LayerSlicer.NONE;
  private static final int FULL = 120;

  public static void main(String[] args) {
    nothingInANewObject();
    settingsOfANewObject();
    cornersOfTheLattice();
    cornersOffTheLattice();
    cornersAtMost80();
    triOfCornersThatAreNotThere();
    trianglesAtMost120();
    layersStayUntilCutAnew();
    cornersAtOnePlaceAreJoined();
    trianglesWithTwoSameCornersAreDropped();
    trianglesOnOneLineAreDropped();
    edgesAreOpenAsOftenAsMoreGo();
    holesOf3To16Edges();
    holesUpTo120Triangles();
    holesOfAFullObject();
    holesFromTheLowestCornerOn();
    holesWithACornerTwice();
    filledTrianglesOnOneLine();
    mendedWhat();
    triangleThatIsNotThere();
    turnOfNumbersNotAsSaid();
    turnOfAllQuarters();
    thicknessOdd1To41();
    layersBelowTheGreatestZ();
    layersOfTrianglesOnly();
    nothingIsPrintedThen();
    CHECK.end();
  }

  private static void due(String call, long got, long want) {
    CHECK.due(call, got, want);
  }

  private static void due(String call, boolean got, boolean want) {
    CHECK.due(call, got, want);
  }

  private static LayerSlicer corners(int[]... places) {
    LayerSlicer x = new LayerSlicer();
    for (int[] p : places) {
      x.corner(p[0], p[1], p[2]);
    }
    return x;
  }

  /** Three corners that are not on one line. */
  private static LayerSlicer threeCorners() {
    return corners(Check.at(0, 0, 0), Check.at(50, 0, 0), Check.at(0, 50, 60));
  }

  private static void nothingInANewObject() {
    LayerSlicer x = new LayerSlicer();
    due("new: tri(0, 0, 0)", x.tri(0, 0, 0), NONE);
    due("new: mend()", x.mend(), 0);
    for (int what = 0; what <= 3; what++) {
      due("new: mended(" + what + ")", x.mended(what), 0);
    }
    due("new: triangle(0, 0)", x.triangle(0, 0), NONE);
    CHECK.cutThrows(x, 0, 0, 0, 0);
    due("new: solid(0, 0, 0)", x.solid(0, 0, 0), 0);
    due("new: kind(0, 0, 0)", x.kind(0, 0, 0), 0);
    due("new: paths(0)", x.paths(0), 0);
    CHECK.pathThrows(x, 0, 0, 0);
    due("new: byteOf(0)", x.byteOf(0), NONE);
    due("new: play(1)", x.play(1), 0);
    due("new: laid(0, 0, 0)", x.laid(0, 0, 0), 0);
    due("new: overhang(0)", x.overhang(0), 0);
    for (int kind = 0; kind <= 6; kind++) {
      due("new: volume(" + kind + ")", x.volume(kind), 0);
    }
    due("new: emit()", x.emit(), 0);
    due("new: byteOf(0) behind emit", x.byteOf(0), NONE);
    due("new: play(1) behind emit", x.play(1), 0);
    due("new: turn(0, 1) without corners", x.turn(0, 1), true);
    for (int thickness = 1; thickness <= 41; thickness += 2) {
      due("new: layers(" + thickness + ")", x.layers(thickness), 0);
    }
    CHECK.cutThrows(x, 0, 0, 0, 0);
    due("new: volume(0) behind layers", x.volume(0), 0);
    due("new: the first corner", x.corner(0, 0, 0), 0);
    due("new: the first triangle", x.tri(0, 0, 0), 0);
  }

  /** Each of the settings 1, 1, 2, 1, 0 told from its neighbours. */
  private static void settingsOfANewObject() {
    LayerSlicer x = Check.plate(60, 11);
    due("shell is not 0", x.kind(2, 0, 5), 1);
    due("shell is not 2", x.kind(2, 1, 5), 4);
    due("skin is not 0", x.kind(0, 5, 5), 2);
    due("skin is not 2", x.kind(1, 5, 5), 4);
    due("period is not 0, 1", x.kind(2, 3, 5), 4);
    due("period is not 3 .. 6: x 2", x.kind(2, 2, 5), 3);
    due("nor: x 4", x.kind(2, 4, 5), 3);
    LayerSlicer table = Check.table();
    due("reach is 1", table.overhang(4), 15);
    LayerSlicer cliff = new LayerSlicer();
    Check.box(cliff, Check.at(0, 0, 0), Check.at(50, 120, 20));
    Check.box(cliff, Check.at(0, 0, 40), Check.at(120, 120, 60));
    cliff.layers(11);
    due("gap is 0: support right beside what is solid", cliff.kind(1, 5, 5), 5);
  }

  private static void cornersOfTheLattice() {
    for (int v = 0; v <= 120; v++) {
      LayerSlicer x = new LayerSlicer();
      due("corner(" + v + ", 0, 0)", x.corner(v, 0, 0), 0);
      due("corner(0, " + v + ", 0)", x.corner(0, v, 0), 1);
      due("corner(0, 0, " + v + ")", x.corner(0, 0, v), 2);
    }
    // That they are kept as given is told by the ends of a cut: corners far and near, at 0 and 120.
    LayerSlicer x = corners(Check.at(0, 120, 0), Check.at(120, 0, 120), Check.at(119, 1, 119));
    x.tri(0, 1, 2);
    due("layers(1)", x.layers(1), 24);
    due("denominator from 0 to 120", x.cut(0, 0, 0, 0), 240);
    due("x from 0 to 120", x.cut(0, 0, 0, 1), 120);
    due("y from 120 to 0", x.cut(0, 0, 0, 2), 120 * 240 - 120);
    due("denominator from 0 to 119", x.cut(0, 0, 1, 0), 238);
    due("x from 0 to 119", x.cut(0, 0, 1, 1), 119);
    due("y from 120 to 1", x.cut(0, 0, 1, 2), 120 * 238 - 119);
  }

  private static void cornersOffTheLattice() {
    LayerSlicer x = new LayerSlicer();
    for (int off : Check.outside(0, 120)) {
      due("corner(" + off + ", 0, 0)", x.corner(off, 0, 0), NONE);
      due("corner(120, " + off + ", 120)", x.corner(120, off, 120), NONE);
      due("corner(60, 60, " + off + ")", x.corner(60, 60, off), NONE);
    }
    due("corner(-1, 121, -1)", x.corner(-1, 121, -1), NONE);
    due("the refused ones are not there", x.tri(0, 0, 0), NONE);
    due("the next corner", x.corner(1, 2, 3), 0);
  }

  private static void cornersAtMost80() {
    LayerSlicer x = new LayerSlicer();
    for (int i = 0; i < 80; i++) {
      due("a corner more", x.corner(7, 7, 7), i);
    }
    for (int i = 0; i < 3; i++) {
      due("when 80 are there", x.corner(7, 7, 7), NONE);
      due("elsewhere, too", x.corner(i, 0, 0), NONE);
    }
    due("a triangle of the last three", x.tri(77, 78, 79), 0);
    due("corner 80 is not there", x.tri(80, 0, 1), NONE);
    due("mend", x.mend(), 0);
    due("joined corners are there still", x.corner(1, 1, 1), NONE);
    due("and can be named", x.tri(79, 78, 77), 0);
    due("turn", x.turn(2, 1), true);
    due("turned ones, too", x.corner(1, 1, 1), NONE);
  }

  private static void triOfCornersThatAreNotThere() {
    LayerSlicer x = threeCorners();
    for (int c : Check.outside(0, 2)) {
      due("tri(" + c + ", 0, 1)", x.tri(c, 0, 1), NONE);
      due("tri(0, " + c + ", 1)", x.tri(0, c, 1), NONE);
      due("tri(0, 1, " + c + ")", x.tri(0, 1, c), NONE);
    }
    due("no triangle is there", x.mended(3), 0);
    due("tri(0, 1, 2)", x.tri(0, 1, 2), 0);
    due("tri(2, 2, 2)", x.tri(2, 2, 2), 1);
    due("tri(0, 1, 3)", x.tri(0, 1, 3), NONE);
    x.corner(1, 1, 1);
    due("tri(0, 1, 3) with a corner more", x.tri(0, 1, 3), 2);
    due("tri(0, 1, 4)", x.tri(0, 1, 4), NONE);
    CHECK.triangleIs(x, 2, 0, 1, 3);
  }

  private static void trianglesAtMost120() {
    LayerSlicer x = threeCorners();
    for (int i = 0; i < FULL; i++) {
      due("a triangle more", x.tri(0, 1, i == 119 ? 2 : 1), i);
    }
    for (int i = 0; i < 3; i++) {
      due("when 120 are there", x.tri(0, 1, 2), NONE);
    }
    due("mended(3) of the full object", x.mended(3), FULL);
    CHECK.triangleIs(x, 119, 0, 1, 2);
    due("triangle(120, 0)", x.triangle(120, 0), NONE);
    due("layers of the full object", x.layers(41), 1);
    due("its last triangle is cut", x.cut(0, 119, 0, 0), 120);
    due("mend drops 119 of them", x.mend(), 0);
    due("dropped", x.mended(1), 119);
    due("the one, and its hole's", x.mended(3), 2);
    due("now there is room again", x.tri(0, 1, 2), 2);
    for (int i = 3; i < FULL; i++) {
      due("up to 120", x.tri(0, 1, 2), i);
    }
    due("and no more", x.tri(0, 1, 2), NONE);
  }

  private static void layersStayUntilCutAnew() {
    LayerSlicer x = Check.table();
    int last = x.mended(3) - 1;
    int end = x.cut(3, 4, 0, 1);
    x.tri(0, 1, 1);
    x.corner(0, 0, 120);
    x.tri(16, 16, 0);
    x.turn(0, 1);
    x.mend();
    x.turn(1, 2);
    due("layer 4 is still the last", x.paths(5), 0);
    due("its solid cells stay", x.solid(4, 9, 3), 1);
    due("its kinds stay", x.kind(0, 9, 3), 5);
    due("its overhang stays", x.overhang(4), 15);
    due("its volumes stay", x.volume(5), 60);
    due("its cuts stay", x.cut(3, 4, 0, 1), end);
    CHECK.cutThrows(x, 0, last + 1, 0, 0);
    due("emit is of those layers", x.emit(), Check.table().emit());
    // The turns have brought what was y 10 up to the height 110.
    due("layers(11) cuts anew", x.layers(11), 10);
    due("the plate lies elsewhere", x.solid(4, 9, 3), 0);
  }

  private static void cornersAtOnePlaceAreJoined() {
    LayerSlicer x = corners(Check.at(5, 5, 5), Check.at(5, 5, 5), Check.at(90, 5, 5), Check.at(5, 90, 5),
        Check.at(90, 5, 5), Check.at(90, 5, 5), Check.at(5, 5, 5), Check.at(5, 90, 6));
    x.tri(1, 5, 3);
    x.tri(6, 4, 7);
    due("(0, 2) is open twice, two more edges of each once", x.mend(), 6);
    // 1 and 6 to 0, which no triangle named, 4 and 5 to 2; 7 is one step beside 3.
    due("joined", x.mended(0), 4);
    CHECK.triangleIs(x, 0, 0, 2, 3);
    CHECK.triangleIs(x, 1, 0, 2, 7);
    x.mend();
    due("the joined are named no more", x.mended(0), 4);
    x.tri(6, 6, 6);
    x.mend();
    due("a corner is joined again", x.mended(0), 5);
    LayerSlicer all = new LayerSlicer();
    for (int i = 0; i < 80; i++) {
      all.corner(120, 120, 120);
    }
    for (int i = 0; i < 79; i++) {
      all.tri(i, i + 1, 79 - i);
    }
    due("all corners at one place", all.mend(), 0);
    due("79 are joined to the lowest", all.mended(0), 79);
    due("no triangle is left", all.mended(3), 0);
  }

  private static void trianglesWithTwoSameCornersAreDropped() {
    LayerSlicer x = threeCorners();
    x.corner(50, 0, 0);
    int[][] same = {{0, 0, 1}, {0, 1, 0}, {1, 0, 0}, {2, 2, 2}, {1, 3, 2}, {2, 1, 3}, {3, 2, 1}};
    for (int[] t : same) {
      x.tri(t[0], t[1], t[2]);
    }
    x.tri(2, 1, 0);
    x.tri(0, 3, 2);
    x.tri(3, 3, 3);
    due("mend", x.mend(), 0);
    due("dropped", x.mended(1), 8);
    due("joined before that", x.mended(0), 1);
    due("left", x.mended(3), 2);
    CHECK.triangleIs(x, 0, 2, 1, 0);
    CHECK.triangleIs(x, 1, 0, 1, 2);
  }

  private static void trianglesOnOneLineAreDropped() {
    int[][][] lines = {
      {{0, 0, 0}, {60, 60, 60}, {120, 120, 120}}, {{0, 0, 0}, {1, 0, 0}, {120, 0, 0}},
      {{7, 0, 9}, {7, 120, 9}, {7, 1, 9}}, {{120, 120, 0}, {120, 120, 1}, {120, 120, 120}},
      {{0, 120, 0}, {120, 0, 120}, {40, 80, 40}}, {{1, 1, 1}, {3, 4, 5}, {5, 7, 9}}};
    for (int[][] line : lines) {
      due("dropped on a line", droppedOf(line[0], line[1], line[2]), 1);
      due("in another order", droppedOf(line[2], line[0], line[1]), 1);
      for (int i = 0; i < 3; i++) {
        int[] beside = line[1].clone();
        beside[i] += beside[i] < 120 ? 1 : -1;
        boolean alongLine = line[0][(i + 1) % 3] == line[2][(i + 1) % 3] && line[0][(i + 2) % 3] == line[2][(i + 2) % 3];
        due("one step beside the line", droppedOf(line[0], beside, line[2]), alongLine ? 1 : 0);
      }
    }
    due("almost on the longest line", droppedOf(Check.at(0, 0, 0), Check.at(60, 60, 60), Check.at(120, 120, 119)), 0);
  }

  private static int droppedOf(int[] a, int[] b, int[] c) {
    LayerSlicer x = corners(a, b, c);
    x.tri(0, 1, 2);
    x.mend();
    return x.mended(1);
  }

  private static void edgesAreOpenAsOftenAsMoreGo() {
    for (int times = 2; times <= 40; times++) {
      LayerSlicer x = threeCorners();
      for (int i = 0; i < times; i++) {
        x.tri(0, 1, 2);
      }
      due("edges of " + times + " triangles one way round", x.mend(), 3 * times);
      x.tri(2, 1, 0);
      // From 2 times on: with one opposite the edges are open once, which makes a hole.
      due("with one the other way round", x.mend(), times == 2 ? 0 : 3 * (times - 1));
      due("holes", x.mended(2), times == 2 ? 1 : 0);
    }
    LayerSlicer x = threeCorners();
    x.corner(90, 90, 90);
    x.tri(0, 1, 2);
    x.tri(0, 1, 2);
    x.tri(1, 0, 3);
    due("(0, 1) once, (1, 2) and (2, 0) twice, (0, 3), (3, 1) once", x.mend(), 7);
    LayerSlicer turned = threeCorners();
    turned.tri(0, 1, 2);
    turned.tri(0, 1, 2);
    due("open one way round", turned.mend(), 6);
    for (int i = 0; i < 3; i++) {
      turned.tri(2, 1, 0);
    }
    due("then once the other way round, which is a hole", turned.mend(), 0);
    due("closed", turned.mended(2), 1);
    CHECK.triangleIs(turned, 5, 0, 1, 2);
  }

  private static void holesOf3To16Edges() {
    for (int n = 3; n <= 20; n++) {
      LayerSlicer x = new LayerSlicer();
      int m = Check.disc(x, n, 0);
      boolean closes = n <= 16;
      due("mend of a hole of " + n, x.mend(), closes ? 0 : n);
      due("holes closed", x.mended(2), closes ? 1 : 0);
      due("triangles", x.mended(3), closes ? n + n - 2 : n);
      for (int k = 1; closes && k <= n - 2; k++) {
        CHECK.triangleIs(x, n + k - 1, m + 1, m + n - k, m + n - k + 1);
      }
      due("nothing more", x.triangle(closes ? n + n - 2 : n, 0), NONE);
      due("mend again", x.mend(), closes ? 0 : n);
      due("holes closed in all", x.mended(2), closes ? 1 : 0);
    }
  }

  private static void holesUpTo120Triangles() {
    for (int n = 3; n <= 16; n++) {
      // n and n - 2 and pairs are just 120.
      LayerSlicer fits = new LayerSlicer();
      Check.disc(fits, n, 0);
      Check.pairs(fits, 61 - n, 50);
      due("a hole of " + n + " up to 120", fits.mend(), 0);
      due("triangles then", fits.mended(3), FULL);
      due("holes then", fits.mended(2), 1);
      // A disc of 17, which is left open, makes the sum odd: just 121.
      LayerSlicer passes = new LayerSlicer();
      Check.disc(passes, n, 0);
      Check.disc(passes, 17, 20);
      Check.pairs(passes, 53 - n, 50);
      int before = passes.mended(3);
      due("triangles and the hole's", before + n - 2, FULL + 1);
      due("a hole of " + n + " past 120", passes.mend(), n + 17);
      due("no triangle of it is put", passes.mended(3), before);
      due("and it is not closed", passes.mended(2), 0);
      // With a hole of 3 there are 120 already.
      due("there is room for others", passes.tri(0, 1, 2) >= 0, n > 3);
    }
  }

  private static void holesOfAFullObject() {
    LayerSlicer x = new LayerSlicer();
    Check.disc(x, 4, 0);
    Check.pairs(x, 58, 50);
    due("full", x.mended(3), FULL);
    due("mend of a full object", x.mend(), 4);
    due("it stays full", x.mended(3), FULL);
    due("no hole is closed", x.mended(2), 0);
    LayerSlicer two = new LayerSlicer();
    Check.disc(two, 4, 0);
    Check.disc(two, 4, 20);
    Check.pairs(two, 55, 50);
    due("118 triangles", two.mended(3), 118);
    due("room for the first hole alone", two.mend(), 4);
    due("120 triangles", two.mended(3), FULL);
    due("one hole", two.mended(2), 1);
    CHECK.triangleIs(two, 118, 1, 3, 4);
    LayerSlicer dropping = new LayerSlicer();
    Check.disc(dropping, 4, 0);
    Check.pairs(dropping, 57, 50);
    dropping.tri(0, 0, 0);
    dropping.tri(0, 0, 0);
    due("dropping makes room before holes are closed", dropping.mend(), 0);
    due("120 again", dropping.mended(3), FULL);
  }

  /** 26 triangles of 78 corners, the last one of the lowest corners: as many holes as corners allow. */
  private static void holesFromTheLowestCornerOn() {
    LayerSlicer x = new LayerSlicer();
    for (int i = 0; i < 78; i++) {
      x.corner(i, i * i / 60, 20);
    }
    for (int i = 25; i >= 0; i--) {
      x.tri(i + 52, i, i + 26);
    }
    due("mend closes all", x.mend(), 0);
    due("26 holes", x.mended(2), 26);
    due("52 triangles", x.mended(3), 52);
    for (int i = 0; i < 26; i++) {
      CHECK.triangleIs(x, 26 + i, i, i + 52, i + 26);
    }
  }

  private static void holesWithACornerTwice() {
    // Two triangles with corner 0, then corner 4, in common: two edges go from it.
    for (int common = 0; common <= 4; common += 4) {
      LayerSlicer x = new LayerSlicer();
      for (int i = 0; i < 5; i++) {
        x.corner(10 * i, 5 * i * i, 0);
      }
      int a = common == 0 ? 4 : 0;
      x.tri(common, a, 1);
      x.tri(common, 2, 3);
      due("a corner come to twice, " + common, x.mend(), 6);
      due("no hole", x.mended(2), 0);
      int m = Check.disc(x, 3, 40);
      due("the next hole is tried", x.mend(), 6);
      due("and closed", x.mended(2), 1);
      CHECK.triangleIs(x, 5, m + 1, m + 2, m + 3);
    }
  }

  private static void filledTrianglesOnOneLine() {
    LayerSlicer x = corners(Check.at(10, 10, 50), Check.at(0, 0, 0), Check.at(10, 0, 0), Check.at(20, 0, 0),
        Check.at(10, 30, 0));
    for (int i = 1; i <= 4; i++) {
      x.tri(0, i % 4 + 1, i);
    }
    due("mend", x.mend(), 0);
    due("triangles, with one on a line", x.mended(3), 6);
    due("none is dropped: that came before", x.mended(1), 0);
    CHECK.triangleIs(x, 4, 1, 3, 4);
    CHECK.triangleIs(x, 5, 1, 2, 3);
    due("mend again", x.mend(), 0);
    due("it is dropped", x.mended(1), 1);
    due("and its hole is closed by it", x.mended(2), 2);
    due("as many as before", x.mended(3), 6);
    CHECK.triangleIs(x, 5, 1, 2, 3);
  }

  private static void mendedWhat() {
    LayerSlicer x = threeCorners();
    x.tri(0, 1, 2);
    x.tri(0, 0, 0);
    x.mend();
    for (int what : Check.outside(0, 3)) {
      due("mended(" + what + ")", x.mended(what), NONE);
    }
    int[] counts = {0, 1, 1, 2};
    for (int what = 0; what <= 3; what++) {
      due("mended(" + what + ")", x.mended(what), counts[what]);
    }
    x.tri(1, 1, 1);
    due("3 tells of now", x.mended(3), 3);
    due("1 tells of mending", x.mended(1), 1);
    x.corner(0, 0, 0);
    x.tri(3, 2, 1);
    x.mend();
    int[] sums = {1, 2, 2, 4};
    for (int what = 0; what <= 3; what++) {
      due("all mending so far: mended(" + what + ")", x.mended(what), sums[what]);
    }
  }

  private static void triangleThatIsNotThere() {
    LayerSlicer x = threeCorners();
    x.tri(2, 1, 0);
    x.tri(0, 0, 0);
    for (int t : Check.outside(0, 1)) {
      due("triangle(" + t + ", 0)", x.triangle(t, 0), NONE);
    }
    for (int k : Check.outside(0, 2)) {
      due("triangle(0, " + k + ")", x.triangle(0, k), NONE);
      due("triangle(1, " + k + ")", x.triangle(1, k), NONE);
    }
    due("triangle(2, 3)", x.triangle(2, 3), NONE);
    CHECK.triangleIs(x, 0, 2, 1, 0);
    CHECK.triangleIs(x, 1, 0, 0, 0);
    x.mend();
    CHECK.triangleIs(x, 1, 0, 1, 2);
    due("triangle(2, 0)", x.triangle(2, 0), NONE);
    LayerSlicer none = threeCorners();
    none.tri(0, 0, 0);
    none.mend();
    due("the dropped one is there no more", none.triangle(0, 0), NONE);
  }

  private static final int[][] PLACES = {{0, 10, 0}, {120, 20, 120}, {7, 0, 119}, {31, 120, 1}, {60, 60, 60}};

  private static LayerSlicer places(int axis, int quarters) {
    LayerSlicer x = new LayerSlicer();
    for (int[] p : PLACES) {
      int[] c = p.clone();
      for (int i = 0; i < quarters; i++) {
        c = axis == 0 ? Check.at(c[0], 120 - c[2], c[1])
            : axis == 1 ? Check.at(c[2], c[1], 120 - c[0]) : Check.at(120 - c[1], c[0], c[2]);
      }
      x.corner(c[0], c[1], c[2]);
    }
    x.tri(0, 1, 2);
    x.tri(3, 1, 4);
    return x;
  }

  private static void sameCuts(String call, LayerSlicer got, LayerSlicer want) {
    int count = want.layers(31);
    due(call + ": layers", got.layers(31), count);
    for (int layer = 0; layer < count; layer++) {
      for (int i = 0; i < 12; i++) {
        due(call + ": cut", endOf(got, layer, i), endOf(want, layer, i));
      }
    }
  }

  private static int endOf(LayerSlicer x, int layer, int i) {
    try {
      return x.cut(layer, i / 6, i / 3 % 2, i % 3);
    } catch (java.util.NoSuchElementException e) {
      return NONE;
    }
  }

  private static void turnOfNumbersNotAsSaid() {
    LayerSlicer x = places(0, 0);
    for (int wrong : Check.outside(0, 2)) {
      due("turn(" + wrong + ", 1)", x.turn(wrong, 1), false);
      due("turn(" + wrong + ", 0)", x.turn(wrong, 0), false);
    }
    for (int wrong : Check.outside(0, 3)) {
      due("turn(2, " + wrong + ")", x.turn(2, wrong), false);
    }
    due("turn(3, 4)", x.turn(3, 4), false);
    due("turn(-1, -1)", x.turn(-1, -1), false);
    sameCuts("refused turns", x, places(0, 0));
  }

  private static void turnOfAllQuarters() {
    for (int axis = 0; axis <= 2; axis++) {
      for (int quarters = 0; quarters <= 3; quarters++) {
        LayerSlicer x = places(0, 0);
        due("turn(" + axis + ", " + quarters + ")", x.turn(axis, quarters), true);
        sameCuts("turn(" + axis + ", " + quarters + ")", x, places(axis, quarters));
        x.turn(axis, 3 - quarters);
        x.turn(axis, 1);
        sameCuts("turned wholly round about " + axis, x, places(0, 0));
      }
    }
    LayerSlicer edge = corners(Check.at(0, 0, 0), Check.at(120, 0, 0), Check.at(0, 120, 0));
    edge.tri(0, 1, 2);
    due("flat at the bottom", edge.layers(1), 0);
    edge.turn(0, 2);
    due("flat at the top", edge.layers(41), 3);
    due("new corners are not turned", edge.corner(0, 0, 0), 3);
    edge.tri(3, 0, 1);
    edge.layers(41);
    due("x of 0 and 0", edge.cut(0, 1, 0, 1), 0);
    due("y of 0 and 120", edge.cut(0, 1, 0, 2), 120 * 41);
  }

  private static void thicknessOdd1To41() {
    LayerSlicer x = Check.plate(120, 41);
    for (int wrong : Check.outside(1, 41)) {
      due("layers(" + wrong + ")", x.layers(wrong), NONE);
    }
    for (int even = -42; even <= 44; even += 2) {
      due("layers(" + even + ")", x.layers(even), NONE);
    }
    for (int odd = -41; odd < 0; odd += 2) {
      due("layers(" + odd + ")", x.layers(odd), NONE);
    }
    due("the layers stay: the last", x.solid(2, 5, 5), 1);
    due("and none more", x.solid(3, 5, 5), 0);
    int[] counts = {24, 24, 24, 17, 13, 11, 9, 8, 7, 6, 6, 5, 5, 4, 4, 4, 4, 3, 3, 3, 3};
    for (int i = 0; i <= 20; i++) {
      due("layers(" + (2 * i + 1) + ") of 120", x.layers(2 * i + 1), counts[i]);
    }
  }

  private static int layersUpTo(int top, int thickness) {
    LayerSlicer x = corners(Check.at(0, 0, top), Check.at(9, 0, 0), Check.at(0, 9, 0));
    x.tri(1, 0, 2);
    return x.layers(thickness);
  }

  private static void layersBelowTheGreatestZ() {
    int[][] want = {{0, 1, 0}, {1, 1, 1}, {2, 1, 2}, {1, 3, 0}, {2, 3, 1}, {4, 3, 1}, {5, 3, 2}, {23, 1, 23}, {24, 1, 24},
      {25, 1, 24}, {120, 1, 24}, {70, 3, 23}, {71, 3, 24}, {117, 5, 23}, {118, 5, 24}, {120, 5, 24}, {20, 41, 0},
      {21, 41, 1}, {61, 41, 1}, {62, 41, 2}, {102, 41, 2}, {103, 41, 3}, {120, 41, 3}, {119, 7, 17}, {116, 7, 17},
      {115, 7, 16}};
    for (int[] w : want) {
      due("layers(" + w[1] + ") below " + w[0], layersUpTo(w[0], w[1]), w[2]);
    }
    for (int top = 0; top <= 120; top++) {
      for (int thickness = 1; thickness <= 41; thickness += 2) {
        // The heights t/2, 3t/2, .. below the top: top / t, rounded to the next whole number.
        int heights = (2 * top + thickness) / (2 * thickness);
        due("layers(" + thickness + ") below " + top, layersUpTo(top, thickness), Math.min(24, heights));
      }
    }
  }

  private static void layersOfTrianglesOnly() {
    LayerSlicer x = corners(Check.at(0, 0, 120), Check.at(9, 0, 3), Check.at(0, 9, 0), Check.at(5, 5, 10));
    due("corners that no triangle names", x.layers(1), 0);
    x.tri(1, 2, 2);
    due("a triangle up to 3", x.layers(1), 3);
    x.tri(2, 2, 3);
    due("the last corner counts", x.layers(1), 10);
    x.tri(2, 0, 2);
    due("the middle one, too", x.layers(41), 3);
    x.mend();
    due("dropped triangles do not count", x.layers(1), 0);
    due("no layer is left", x.solid(0, 0, 0), 0);
  }

  private static void nothingIsPrintedThen() {
    for (int again = 11; again <= 41; again += 30) {
      LayerSlicer x = Check.table();
      x.emit();
      x.play(20);
      due("a bead", x.laid(0, 1, 1), 1);
      x.layers(again);
      for (int i = 0; i < 144; i++) {
        due("no bead", x.laid(0, i % 12, i / 12), 0);
      }
      due("nothing to play", x.play(1), 0);
      due("no bead by it", x.laid(0, 1, 1), 0);
      due("emit makes a program anew", x.emit() > 0, true);
      due("from its first command on", x.play(2), 2);
      due("in layer 0", x.laid(0, 1, 1), 1);
    }
  }
}
