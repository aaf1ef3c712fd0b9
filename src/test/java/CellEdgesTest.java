/** Promises 9 to 14, 19 and 20 at their edges: cuts, cells, settings, kinds and paths. */
public final class CellEdgesTest {
  private static final Check CHECK = new Check();
  private static final int NONE = LayerSlicer.NONE;

  public static void main(String[] args) {
    cutThatIsNotThere();
    cutOfCornersToOneSide();
    cutEndsInTheOrderOfEdges();
    cutWithLayersAtTheLimit();
    solidOutside();
    solidInAllCells();
    solidByAnOddNumber();
    solidWithAnEndAtTheRow();
    solidWithALineAtTheCentre();
    settingsInTheirRanges();
    settingsNotAsSaid();
    shellByDistance();
    shellRoundAnOpenCell();
    skinByLayers();
    skinBesideAnOpenLayer();
    infillByPeriod();
    hangingByReach();
    supportDownToTheFirstSolid();
    supportByGap();
    kindOutside();
    pathsOfKinds();
    pathsEndWithTheRow();
    pathsOfOneCellEach();
    pathsOfNoLayer();
    pathThatIsNotThere();
    overhangOfLayers();
    volumeOfKinds();
    volumeOfTheFullObject();
    CHECK.end();
  }

  private static void due(String call, long got, long want) {
    CHECK.due(call, got, want);
  }

  private static void due(String call, boolean got, boolean want) {
    CHECK.due(call, got, want);
  }

  /** One triangle of three corners. */
  private static LayerSlicer triangle(int[] a, int[] b, int[] c) {
    LayerSlicer x = new LayerSlicer();
    x.corner(a[0], a[1], a[2]);
    x.corner(b[0], b[1], b[2]);
    x.corner(c[0], c[1], c[2]);
    x.tri(0, 1, 2);
    return x;
  }

  private static void cutThatIsNotThere() {
    LayerSlicer x = triangle(Check.at(10, 20, 0), Check.at(50, 60, 100), Check.at(90, 20, 0));
    x.tri(2, 0, 1);
    CHECK.cutThrows(x, 0, 0, 0, 0);
    due("layers", x.layers(41), 2);
    for (int wrong : Check.outside(0, 1)) {
      CHECK.cutThrows(x, wrong, 0, 0, 0);
      CHECK.cutThrows(x, 0, wrong, 0, 0);
      CHECK.cutThrows(x, 0, 0, wrong, 0);
    }
    for (int wrong : Check.outside(0, 2)) {
      CHECK.cutThrows(x, 1, 1, 1, wrong);
    }
    CHECK.cutThrows(x, -1, -1, -1, -1);
    CHECK.cutThrows(x, 2, 2, 2, 3);
    due("the last of all", x.cut(1, 1, 1, 2), 20 * 200 + 40 * 123);
    due("the first of all", x.cut(0, 0, 0, 0), 200);
    x.tri(0, 1, 2);
    CHECK.cutThrows(x, 0, 2, 0, 0);
    due("the layers are cut anew", x.layers(41), 2);
    due("now it is there", x.cut(0, 2, 0, 0), 200);
    x.layers(39);
    due("a layer more: 97.5", x.cut(2, 2, 0, 1), 10 * 200 + 40 * 195);
    CHECK.cutThrows(x, 3, 2, 0, 1);
  }

  private static void cutOfCornersToOneSide() {
    LayerSlicer x = triangle(Check.at(0, 0, 20), Check.at(50, 0, 20), Check.at(0, 50, 20));
    x.corner(0, 0, 21);
    x.corner(50, 0, 21);
    x.corner(0, 50, 120);
    x.corner(0, 0, 61);
    x.tri(3, 4, 5);
    x.tri(0, 1, 6);
    x.tri(0, 0, 3);
    due("layers", x.layers(41), 3);
    // The heights are 20.5, 61.5 and 102.5.
    CHECK.cutThrows(x, 0, 0, 0, 0);
    CHECK.cutThrows(x, 1, 0, 0, 0);
    CHECK.cutThrows(x, 0, 1, 0, 0);
    due("corners 21, 21 and 120 by 61.5", x.cut(1, 1, 0, 0), 198);
    due("and by 102.5", x.cut(2, 1, 1, 0), 198);
    due("corners 20, 20 and 61 by 20.5", x.cut(0, 2, 0, 0), 82);
    CHECK.cutThrows(x, 1, 2, 0, 0);
    due("one step up: the least denominator", x.cut(0, 3, 0, 0), 2);
    due("the same corner twice: both ends at one place", x.cut(0, 3, 1, 0), 2);
    CHECK.cutThrows(x, 1, 3, 0, 0);
  }

  /** The alone corner, above or below, is a, b or c. */
  private static void cutEndsInTheOrderOfEdges() {
    int[][] ends = {{0, 2}, {0, 1}, {1, 2}};
    for (int alone = 0; alone < 3; alone++) {
      for (int up = 0; up <= 1; up++) {
        int[][] c = {{10, 100, 0}, {40, 70, 0}, {90, 110, 0}};
        for (int k = 0; k < 3; k++) {
          c[k][2] = (k == alone) == (up == 1) ? 30 + k : 3 * k;
        }
        LayerSlicer x = triangle(c[0], c[1], c[2]);
        x.layers(41);
        for (int end = 0; end < 2; end++) {
          int from = ends[alone][end];
          int to = (from + 1) % 3;
          int[] p = c[from][2] < c[to][2] ? c[from] : c[to];
          int[] q = c[from][2] < c[to][2] ? c[to] : c[from];
          int d = 2 * (q[2] - p[2]);
          String call = "alone " + alone + (up == 1 ? " above" : " below") + ", end " + end;
          due(call + ": denominator", x.cut(0, 0, end, 0), d);
          due(call + ": x", x.cut(0, 0, end, 1), p[0] * d + (q[0] - p[0]) * (41 - 2 * p[2]));
          due(call + ": y", x.cut(0, 0, end, 2), p[1] * d + (q[1] - p[1]) * (41 - 2 * p[2]));
        }
      }
    }
  }

  private static void cutWithLayersAtTheLimit() {
    LayerSlicer x = triangle(Check.at(0, 0, 0), Check.at(120, 120, 120), Check.at(120, 0, 0));
    due("layers", x.layers(5), 24);
    due("the highest layer, 117.5", x.cut(23, 0, 0, 1), 120 * 235);
    CHECK.cutThrows(x, 24, 0, 0, 1);
    due("layers(1) go up to 23.5 alone", x.layers(1), 24);
    due("the last", x.cut(23, 0, 0, 1), 120 * 47);
    CHECK.cutThrows(x, 24, 0, 0, 1);
    due("layers(41)", x.layers(41), 3);
    CHECK.cutThrows(x, 3, 0, 0, 1);
    CHECK.cutThrows(x, 23, 0, 0, 1);
  }

  private static void solidOutside() {
    LayerSlicer x = Check.plate(60, 11);
    for (int out : Check.outside(0, 11)) {
      due("solid(0, " + out + ", 5)", x.solid(0, out, 5), 0);
      due("solid(0, 5, " + out + ")", x.solid(0, 5, out), 0);
    }
    for (int out : Check.outside(0, 4)) {
      due("solid(" + out + ", 5, 5)", x.solid(out, 5, 5), 0);
    }
    due("solid(4, 11, 11)", x.solid(4, 11, 11), 1);
    x.layers(41);
    due("a layer that is there no more", x.solid(4, 5, 5), 0);
    due("nor the second", x.solid(1, 5, 5), 0);
    due("but the first", x.solid(0, 11, 0), 1);
  }

  private static void solidInAllCells() {
    LayerSlicer x = Check.plate(1, 1);
    for (int i = 0; i < 144; i++) {
      due("solid(0, " + i % 12 + ", " + i / 12 + ")", x.solid(0, i % 12, i / 12), 1);
    }
    // The centres are at 4.5 and 114.5: a box from 5 to 114 leaves the outer cells open.
    LayerSlicer inner = new LayerSlicer();
    Check.box(inner, Check.at(5, 5, 0), Check.at(114, 114, 1));
    inner.layers(1);
    LayerSlicer outer = new LayerSlicer();
    Check.box(outer, Check.at(4, 4, 0), Check.at(115, 115, 1));
    outer.layers(1);
    for (int i = 0; i < 12; i++) {
      int want = i >= 1 && i <= 10 ? 1 : 0;
      due("inner solid(0, " + i + ", 6)", inner.solid(0, i, 6), want);
      due("inner solid(0, 6, " + i + ")", inner.solid(0, 6, i), want);
      due("outer solid(0, " + i + ", 0)", outer.solid(0, i, 0), 1);
      due("outer solid(0, 11, " + i + ")", outer.solid(0, 11, i), 1);
    }
  }

  private static void solidByAnOddNumber() {
    for (int times = 1; times <= 4; times++) {
      LayerSlicer x = triangle(Check.at(20, 0, 0), Check.at(20, 60, 60), Check.at(20, 120, 0));
      for (int i = 1; i < times; i++) {
        x.tri(0, 1, 2);
      }
      x.layers(1);
      due(times + " cuts to the left", x.solid(0, 2, 5), times % 2);
      due("also far off", x.solid(0, 11, 5), times % 2);
      due("none to the left", x.solid(0, 1, 5), 0);
    }
  }

  /** A triangle that a layer at 0.5 cuts from one point of halves to another. */
  private static LayerSlicer cutFrom(int doubleX, int doubleY, int toDoubleX, int toDoubleY) {
    LayerSlicer x = new LayerSlicer();
    // The middle of the lowest and the upper corner is half a step off if it is odd.
    x.corner(doubleX / 2, doubleY / 2, 0);
    x.corner(doubleX - doubleX / 2, doubleY - doubleY / 2, 1);
    x.corner(toDoubleX - (doubleX - doubleX / 2), toDoubleY - (doubleY - doubleY / 2), 0);
    x.tri(0, 1, 2);
    due("one layer", x.layers(1), 1);
    due("x of end 0", x.cut(0, 0, 0, 1), doubleX);
    due("y of end 0", x.cut(0, 0, 0, 2), doubleY);
    due("x of end 1", x.cut(0, 0, 1, 1), toDoubleX);
    due("y of end 1", x.cut(0, 0, 1, 2), toDoubleY);
    return x;
  }

  /** Row 3 has its centre at 34.5, whose double is 69: "at most the centre's" and "above". */
  private static void solidWithAnEndAtTheRow() {
    int[][] ends = {{69, 70, 1}, {68, 69, 0}, {69, 69, 0}, {70, 71, 0}, {67, 68, 0}, {68, 70, 1}, {69, 80, 1}, {60, 69, 0}};
    for (int[] e : ends) {
      // The line is at x 10, between the cells 0 and 1.
      LayerSlicer up = cutFrom(20, e[0], 20, e[1]);
      LayerSlicer down = cutFrom(20, e[1], 20, e[0]);
      for (int cell = 0; cell < 12; cell++) {
        int want = cell > 0 ? e[2] : 0;
        due("up from " + e[0] + " to " + e[1] + ", cell " + cell, up.solid(0, cell, 3), want);
        due("down from " + e[1] + " to " + e[0] + ", cell " + cell, down.solid(0, cell, 3), want);
      }
    }
    LayerSlicer x = cutFrom(20, 69, 20, 89);
    due("row 3, from its centre up", x.solid(0, 5, 3), 1);
    due("row 4, up to its centre", x.solid(0, 5, 4), 0);
    due("row 2", x.solid(0, 5, 2), 0);
  }

  /** Cell 3 has its centre at 34.5: "an x less than the centre's". */
  private static void solidWithALineAtTheCentre() {
    int[][] lines = {{68, 68, 1}, {69, 69, 0}, {70, 70, 0}, {66, 72, 0}, {65, 72, 1}, {66, 73, 0}, {72, 66, 0}};
    for (int[] l : lines) {
      // The row's centre, 69, is in the middle of 68 and 70.
      LayerSlicer x = cutFrom(l[0], 68, l[1], 70);
      due("line from " + l[0] + " to " + l[1], x.solid(0, 3, 3), l[2]);
      due("the cell to the left", x.solid(0, 2, 3), 0);
      due("the cell to the right", x.solid(0, 4, 3), 1);
    }
    due("left of the first cell", cutFrom(8, 68, 8, 70).solid(0, 0, 3), 1);
    due("at the first cell", cutFrom(9, 68, 9, 70).solid(0, 0, 3), 0);
    due("left of the last cell", cutFrom(228, 68, 228, 70).solid(0, 11, 3), 1);
    due("at the last cell", cutFrom(229, 68, 229, 70).solid(0, 11, 3), 0);
    // From (0, 34) to (120, 35) the line is at 60 in the row's middle: cells 0 .. 5 are left of it.
    LayerSlicer flat = cutFrom(119, 68, 121, 70);
    due("cell 5 before 60", flat.solid(0, 5, 3), 0);
    due("cell 6 behind 60", flat.solid(0, 6, 3), 1);
  }

  private static void settingsInTheirRanges() {
    int[] most = {3, 3, 6, 3, 2};
    LayerSlicer x = Check.table();
    for (int i = 0; i < 5; i++) {
      for (int v = 0; v <= most[i]; v++) {
        int[] s = {1, 1, 2, 1, 0};
        s[i] = v;
        due("setting " + i + " to " + v, x.settings(s[0], s[1], s[2], s[3], s[4]), true);
      }
    }
    due("all at their greatest", x.settings(3, 3, 6, 3, 2), true);
    due("all 0", x.settings(0, 0, 0, 0, 0), true);
    due("by those", x.overhang(4), 18);
  }

  private static void settingsNotAsSaid() {
    int[] most = {3, 3, 6, 3, 2};
    for (int i = 0; i < 5; i++) {
      LayerSlicer x = Check.table();
      x.settings(1, 0, 1, 2, 1);
      int[] volumes = new int[7];
      for (int kind = 0; kind <= 6; kind++) {
        volumes[kind] = x.volume(kind);
      }
      for (int wrong : Check.outside(0, most[i])) {
        // The others would make other kinds if they were taken.
        int[] s = {0, 3, 0, 0, 0};
        s[i] = wrong;
        due("setting " + i + " to " + wrong, x.settings(s[0], s[1], s[2], s[3], s[4]), false);
        due("changes nothing", x.volume(5), volumes[5]);
      }
      for (int kind = 0; kind <= 6; kind++) {
        due("volume(" + kind + ") as before", x.volume(kind), volumes[kind]);
      }
    }
  }

  private static void shellByDistance() {
    for (int s = 0; s <= 3; s++) {
      LayerSlicer x = Check.plate(60, 11);
      x.settings(s, 0, 0, 0, 0);
      for (int i = 0; i < 144; i++) {
        int edge = Math.min(Math.min(i % 12, 11 - i % 12), Math.min(i / 12, 11 - i / 12));
        due("shell " + s + ", " + edge + " cells from the edge", x.kind(2, i % 12, i / 12), edge < s ? 1 : 4);
      }
    }
  }

  /** One open shaft, at cell (5, 6): both distances count, and the greater of them. */
  private static void shellRoundAnOpenCell() {
    for (int s = 0; s <= 3; s++) {
      LayerSlicer x = new LayerSlicer();
      Check.box(x, Check.at(0, 0, 0), Check.at(120, 120, 60));
      Check.box(x, Check.at(50, 60, 0), Check.at(60, 70, 60));
      x.layers(11);
      x.settings(s, 0, 0, 0, 0);
      due("the shaft", x.kind(1, 5, 6), 0);
      for (int i = 0; i < 144; i++) {
        int far = Math.max(Math.abs(i % 12 - 5), Math.abs(i / 12 - 6));
        int edge = Math.min(Math.min(i % 12, 11 - i % 12), Math.min(i / 12, 11 - i / 12));
        if (far > 0) {
          due("shell " + s + ", " + far + " from the shaft", x.kind(1, i % 12, i / 12), far <= s || edge < s ? 1 : 4);
        }
      }
    }
  }

  private static void skinByLayers() {
    for (int n = 0; n <= 3; n++) {
      for (int count = 1; count <= 24; count++) {
        LayerSlicer x = Check.plate(count * 5 - 1, 5);
        x.settings(0, n, 1, 1, 0);
        for (int layer = 0; layer < count; layer++) {
          boolean skin = layer < n || layer > count - 1 - n;
          due("skin " + n + " in layer " + layer + " of " + count, x.kind(layer, 5, 5), skin ? 2 : 3);
        }
      }
    }
    // 24 layers of 1 end at 24, though the plate goes on: above the last one all cells are open.
    LayerSlicer high = Check.plate(120, 1);
    high.settings(0, 3, 1, 1, 0);
    due("layer 23", high.kind(23, 5, 5), 2);
    due("layer 21", high.kind(21, 5, 5), 2);
    due("layer 20", high.kind(20, 5, 5), 3);
  }

  private static void skinBesideAnOpenLayer() {
    for (int n = 0; n <= 3; n++) {
      LayerSlicer x = new LayerSlicer();
      // Layer 10 of 24 is open.
      Check.box(x, Check.at(0, 0, 0), Check.at(120, 120, 50));
      Check.box(x, Check.at(0, 0, 55), Check.at(120, 120, 120));
      x.layers(5);
      x.settings(0, n, 1, 1, 0);
      for (int layer = 3; layer <= 20; layer++) {
        int want = layer == 10 ? 5 : Math.abs(layer - 10) <= n ? 2 : 3;
        due("skin " + n + " in layer " + layer, x.kind(layer, 5, 5), want);
      }
    }
  }

  private static void infillByPeriod() {
    for (int p = 0; p <= 6; p++) {
      LayerSlicer x = Check.plate(60, 11);
      x.settings(0, 0, p, 1, 0);
      for (int i = 0; i < 12; i++) {
        boolean line = p != 0 && i % p == 0;
        for (int layer = 0; layer < 5; layer++) {
          boolean byX = layer % 2 == 0;
          due("period " + p + ", layer " + layer + ", " + i, x.kind(layer, byX ? i : 5, byX ? 5 : i), line ? 3 : 4);
          due("beside", x.kind(layer, byX ? i : 6, byX ? 7 : i), line ? 3 : 4);
        }
      }
    }
  }

  /** A pillar of one cell, (5, 5), under a plate over all cells. */
  private static LayerSlicer mushroom() {
    LayerSlicer x = new LayerSlicer();
    Check.box(x, Check.at(50, 50, 0), Check.at(60, 60, 33));
    Check.box(x, Check.at(0, 0, 33), Check.at(120, 120, 40));
    due("layers of a mushroom", x.layers(11), 4);
    return x;
  }

  private static void hangingByReach() {
    for (int r = 0; r <= 3; r++) {
      LayerSlicer x = mushroom();
      x.settings(0, 0, 0, r, 0);
      due("hanging with reach " + r, x.overhang(3), 144 - (2 * r + 1) * (2 * r + 1));
      for (int i = 0; i < 144; i++) {
        int far = Math.max(Math.abs(i % 12 - 5), Math.abs(i / 12 - 5));
        due("reach " + r + ", " + far + " from the pillar", x.kind(2, i % 12, i / 12), far == 0 ? 4 : far <= r ? 0 : 5);
      }
      due("the pillar does not hang", x.overhang(1) + x.overhang(2), 0);
      due("nor layer 0", x.overhang(0), 0);
    }
    LayerSlicer corner = new LayerSlicer();
    Check.box(corner, Check.at(110, 110, 0), Check.at(120, 120, 33));
    Check.box(corner, Check.at(0, 0, 33), Check.at(120, 120, 40));
    corner.layers(11);
    corner.settings(0, 0, 0, 3, 0);
    due("reach does not go round the edge", corner.overhang(3), 144 - 16);
    due("nor to the next row", corner.kind(2, 0, 11), 5);
  }

  private static void supportDownToTheFirstSolid() {
    LayerSlicer x = new LayerSlicer();
    // A plate in layer 8 over a slab in layer 4, which a wall carries, so that it does not hang.
    Check.box(x, Check.at(0, 0, 40), Check.at(30, 120, 50));
    Check.box(x, Check.at(0, 0, 0), Check.at(10, 120, 40));
    Check.box(x, Check.at(0, 0, 80), Check.at(60, 120, 90));
    due("layers", x.layers(10 + 1), 8);
    due("layers", x.layers(9), 10);
    x.settings(0, 0, 0, 3, 0);
    int[] besideSlab = {5, 5, 5, 5, 5, 5, 5, 5, 5, 4};
    int[] overSlab = {0, 0, 0, 0, 4, 4, 5, 5, 5, 4};
    for (int layer = 0; layer < 10; layer++) {
      due("beside the slab, layer " + layer, x.kind(layer, 5, 6), besideSlab[layer]);
      due("over and under the slab, layer " + layer, x.kind(layer, 2, 6), overSlab[layer]);
      due("beside all", x.kind(layer, 6, 6), 0);
    }
    due("nothing of the slab hangs", x.overhang(4), 0);
    due("the whole plate does", x.overhang(9), 6 * 12);
    x.settings(0, 0, 0, 0, 0);
    due("with reach 0 the slab hangs", x.overhang(4), 2 * 12);
    due("and has support", x.kind(0, 2, 6), 5);
    LayerSlicer ground = new LayerSlicer();
    Check.box(ground, Check.at(0, 0, 0), Check.at(60, 60, 11));
    ground.layers(11);
    due("layer 0 never hangs", ground.overhang(0), 0);
    LayerSlicer floating = new LayerSlicer();
    Check.box(floating, Check.at(0, 0, 11), Check.at(60, 60, 22));
    due("layers of what floats", floating.layers(11), 2);
    due("layer 1 does", floating.overhang(1), 36);
    due("and has support below", floating.volume(5), 36);
  }

  private static void supportByGap() {
    for (int g = 0; g <= 2; g++) {
      LayerSlicer x = mushroom();
      x.settings(0, 0, 0, 0, g);
      for (int layer = 0; layer <= 2; layer++) {
        for (int i = 0; i < 144; i++) {
          int far = Math.max(Math.abs(i % 12 - 5), Math.abs(i / 12 - 5));
          due("gap " + g + ", " + far + " from the pillar", x.kind(layer, i % 12, i / 12), far == 0 ? 4 : far <= g ? 6 : 5);
        }
      }
    }
    LayerSlicer floating = new LayerSlicer();
    Check.box(floating, Check.at(0, 0, 11), Check.at(60, 60, 22));
    floating.layers(11);
    floating.settings(0, 0, 0, 0, 2);
    due("the gap looks at its own layer alone", floating.volume(5), 36);
    LayerSlicer near = mushroom();
    near.settings(0, 0, 0, 2, 2);
    due("a gap only where something hangs", near.volume(6), 0);
  }

  private static void kindOutside() {
    LayerSlicer x = Check.plate(60, 11);
    for (int out : Check.outside(0, 11)) {
      due("kind(0, " + out + ", 5)", x.kind(0, out, 5), 0);
      due("kind(0, 5, " + out + ")", x.kind(0, 5, out), 0);
    }
    for (int out : Check.outside(0, 4)) {
      due("kind(" + out + ", 5, 5)", x.kind(out, 5, 5), 0);
    }
    due("kind(4, 11, 11)", x.kind(4, 11, 11), 1);
    due("kind(0, 0, 0)", x.kind(0, 0, 0), 1);
    x.layers(41);
    due("a layer that is there no more", x.kind(4, 11, 11), 0);
    x.settings(0, 0, 0, 0, 0);
    due("by the settings now", x.kind(0, 0, 0), 4);
  }

  private static void pathsOfKinds() {
    LayerSlicer x = Check.plate(60, 11);
    int[][] want = {{0, 0, 0, 0, 0}, {0, 0, 1, 12, 12}, {0, 0, 2, 72, 6}, {0, 0, 3, 48, 4}, {0, 0, 4, 36, 3},
      {0, 0, 5, 36, 3}, {0, 0, 6, 24, 2}, {0, 1, 0, 12, 0}, {1, 0, 0, 22, 22}, {3, 0, 0, 18, 18}};
    for (int[] w : want) {
      x.settings(w[0], w[1], w[2], 1, 0);
      due("paths of layer 0 by " + w[0] + ", " + w[1] + ", " + w[2], x.paths(0), w[3]);
      due("paths of layer 1", x.paths(1), w[4]);
    }
    LayerSlicer hung = mushroom();
    hung.settings(0, 0, 0, 0, 0);
    due("support on both sides of a gap cell", hung.paths(0), 13);
    hung.settings(0, 0, 0, 0, 1);
    due("support round a support gap", hung.paths(0), 12 + 3);
    hung.settings(0, 0, 0, 3, 0);
    due("support round cells of kind 0", hung.paths(0), 12 + 7);
  }

  /** Runs of one kind that end with a row and begin with the next one are two. */
  private static void pathsEndWithTheRow() {
    LayerSlicer x = Check.plate(60, 11);
    x.settings(0, 0, 1, 1, 0);
    due("rows of 12", x.paths(0), 12);
    for (int y = 0; y < 12; y++) {
      int[] want = {3, 0, y, 12};
      for (int what = 0; what < 4; what++) {
        due("path(0, " + y + ", " + what + ")", x.path(0, y, what), want[what]);
      }
    }
    x.settings(1, 1, 1, 1, 0);
    int[][] begin = {{1, 0, 0, 12}, {1, 0, 1, 1}, {2, 1, 1, 10}, {1, 11, 1, 1}, {1, 0, 2, 1}};
    for (int i = 0; i < begin.length; i++) {
      for (int what = 0; what < 4; what++) {
        due("path(0, " + i + ", " + what + ") of three kinds", x.path(0, i, what), begin[i][what]);
      }
    }
  }

  /** The most that a layer can have: under walls at even x there are lines, and between the walls skin. */
  private static void pathsOfOneCellEach() {
    LayerSlicer x = new LayerSlicer();
    Check.box(x, Check.at(0, 0, 0), Check.at(120, 120, 33));
    for (int wall = 0; wall < 6; wall++) {
      Check.box(x, Check.at(20 * wall, 0, 33), Check.at(20 * wall + 10, 120, 44));
    }
    due("layers", x.layers(11), 4);
    x.settings(0, 1, 2, 1, 0);
    due("paths of layer 2", x.paths(2), 144);
    for (int i = 0; i < 144; i++) {
      due("kind of path " + i, x.path(2, i, 0), i % 2 == 0 ? 3 : 2);
    }
    int[] last = {2, 11, 11, 1};
    for (int what = 0; what < 4; what++) {
      due("path(2, 143, " + what + ")", x.path(2, 143, what), last[what]);
    }
    CHECK.pathThrows(x, 2, 144, 0);
    int others = x.paths(0) + x.paths(1) + x.paths(3);
    due("the program", x.emit(), 4 + 5 * (144 + others));
    due("played", x.play(1000), 4 + 144 + others);
    due("the last cell of layer 2", x.laid(2, 11, 11), 1);
  }

  private static void pathsOfNoLayer() {
    LayerSlicer x = Check.plate(60, 11);
    for (int out : Check.outside(0, 4)) {
      due("paths(" + out + ")", x.paths(out), 0);
      CHECK.pathThrows(x, out, 0, 0);
    }
    due("paths(4)", x.paths(4), 12 + 20);
    x.layers(41);
    due("a layer that is there no more", x.paths(1), 0);
    CHECK.pathThrows(x, 1, 0, 0);
    LayerSlicer open = new LayerSlicer();
    Check.box(open, Check.at(0, 0, 0), Check.at(4, 120, 30));
    open.layers(11);
    due("a layer of no solid cell", open.paths(0), 0);
    CHECK.pathThrows(open, 0, 0, 0);
  }

  private static void pathThatIsNotThere() {
    LayerSlicer x = Check.plate(60, 11);
    int last = x.paths(2) - 1;
    for (int i : Check.outside(0, last)) {
      CHECK.pathThrows(x, 2, i, 0);
    }
    for (int what : Check.outside(0, 3)) {
      CHECK.pathThrows(x, 2, 0, what);
    }
    CHECK.pathThrows(x, 5, -1, 4);
    due("the last path", x.path(2, last, 3), 12);
    due("its row", x.path(2, last, 2), 11);
    x.settings(0, 0, 1, 1, 0);
    CHECK.pathThrows(x, 2, 12, 0);
    due("by the settings now", x.path(2, 11, 0), 3);
  }

  private static void overhangOfLayers() {
    LayerSlicer x = Check.table();
    for (int out : Check.outside(0, 4)) {
      due("overhang(" + out + ")", x.overhang(out), 0);
    }
    int[] want = {0, 0, 0, 0, 15};
    for (int layer = 0; layer <= 4; layer++) {
      due("overhang(" + layer + ")", x.overhang(layer), want[layer]);
    }
    x.layers(41);
    due("a layer that is there no more", x.overhang(4), 0);
    LayerSlicer full = new LayerSlicer();
    Check.box(full, Check.at(0, 0, 23), Check.at(120, 120, 24));
    full.layers(1);
    due("a whole layer hangs, the last of 24", full.overhang(23), 144);
    due("with all cells below", full.volume(5), 23 * 144);
  }

  private static void volumeOfKinds() {
    LayerSlicer x = Check.table();
    for (int out : Check.outside(0, 6)) {
      due("volume(" + out + ")", x.volume(out), NONE);
    }
    x.settings(1, 0, 2, 1, 2);
    // The middle row is inside: 1 of 3 x 3 cells below, 7 of 9 x 3 in the plate; x 2, 4, 6, 8 are lines there.
    int[] want = {5 * 144 - 4 * 9 - 27 - 60, 4 * 8 + 20, 0, 1 + 1 + 1 + 1 + 4, 3, 48, 12};
    for (int kind = 0; kind <= 6; kind++) {
      due("volume(" + kind + ")", x.volume(kind), want[kind]);
    }
    LayerSlicer none = new LayerSlicer();
    for (int out : Check.outside(0, 6)) {
      due("new: volume(" + out + ")", none.volume(out), NONE);
    }
  }

  private static void volumeOfTheFullObject() {
    LayerSlicer x = Check.plate(120, 5);
    int all = 24 * 144;
    x.settings(0, 0, 1, 0, 0);
    due("all lines", x.volume(3), all);
    x.settings(0, 0, 0, 0, 0);
    due("all gaps", x.volume(4), all);
    x.settings(3, 3, 6, 3, 2);
    due("shells", x.volume(1), 24 * (144 - 36));
    due("skins", x.volume(2), 6 * 36);
    // Cells 3 .. 8 have one line of period 6.
    due("lines", x.volume(3), 18 * 6);
    due("gaps", x.volume(4), 18 * 30);
    due("nothing is open", x.volume(0) + x.volume(5) + x.volume(6), 0);
    LayerSlicer open = new LayerSlicer();
    Check.box(open, Check.at(0, 0, 0), Check.at(4, 120, 120));
    open.layers(5);
    due("all open", open.volume(0), all);
  }
}
