import java.util.NoSuchElementException;
import java.util.TreeSet;

/** Counts and prints answers that are not as due, and builds the meshes that tests share. */
final class Check {
  private int wrong;
  private int looked;

  void due(String call, long got, long want) {
    looked++;
    if (got != want) {
      wrong++;
      System.out.println(call + " answered " + got + ", due is " + want);
    }
  }

  void due(String call, boolean got, boolean want) {
    due(call, got ? 1 : 0, want ? 1 : 0);
  }

  void cutThrows(LayerSlicer x, int layer, int t, int end, int what) {
    boolean thrown = false;
    try {
      x.cut(layer, t, end, what);
    } catch (NoSuchElementException e) {
      thrown = true;
    }
    due("cut(" + layer + ", " + t + ", " + end + ", " + what + ") throws", thrown, true);
  }

  void pathThrows(LayerSlicer x, int layer, int i, int what) {
    boolean thrown = false;
    try {
      x.path(layer, i, what);
    } catch (NoSuchElementException e) {
      thrown = true;
    }
    due("path(" + layer + ", " + i + ", " + what + ") throws", thrown, true);
  }

  void end() {
    System.out.println(wrong == 0 ? looked + " answers, all as due" : wrong + " answers are not as due");
    if (wrong != 0) {
      System.exit(1);
    }
  }

  /** The 12 triangles of a box over corners numbered by bits: 1 for the far x, 2 for the far y, 4 for the far z. */
  static final int[][] BOX = {
    {0, 2, 3}, {0, 3, 1}, {4, 5, 7}, {4, 7, 6}, {0, 1, 5}, {0, 5, 4},
    {2, 6, 7}, {2, 7, 3}, {0, 4, 6}, {0, 6, 2}, {1, 3, 7}, {1, 7, 5}};

  /** Puts a box from one point to another into a slicer; the number of its first corner. */
  static int box(LayerSlicer x, int[] from, int[] to) {
    int first = boxCorners(x, from, to);
    for (int[] t : BOX) {
      x.tri(first + t[0], first + t[1], first + t[2]);
    }
    return first;
  }

  static int boxCorners(LayerSlicer x, int[] from, int[] to) {
    int first = LayerSlicer.NONE;
    for (int i = 0; i < 8; i++) {
      int c = x.corner((i & 1) == 0 ? from[0] : to[0], (i & 2) == 0 ? from[1] : to[1], (i & 4) == 0 ? from[2] : to[2]);
      first = i == 0 ? c : first;
    }
    return first;
  }

  static int[] at(int x, int y, int z) {
    return new int[] {x, y, z};
  }

  /**
   * Numbers that are not low .. high: the first ones on each side, and those that would come back in when a
   * program shifts by them, multiplies them or keeps them in fewer bits, down to the smallest and up to the greatest.
   */
  static int[] outside(int low, int high) {
    TreeSet<Integer> numbers = new TreeSet<>();
    for (int near = 1; near <= 3; near++) {
      numbers.add(low - near);
      numbers.add(high + near);
    }
    for (int bits = 5; bits <= 31; bits++) {
      numbers.add((1 << bits) + low);
      numbers.add((1 << bits) + low + 1);
      numbers.add(-(1 << bits) + high);
    }
    // Three times the first and twelve times the second are 2 and 8 when they wrap around.
    numbers.add(1431655766);
    numbers.add(357913942);
    numbers.add(Integer.MIN_VALUE);
    numbers.add(Integer.MAX_VALUE);
    numbers.removeIf(n -> n >= low && n <= high);
    return numbers.stream().mapToInt(n -> n).toArray();
  }

  /** A plate over all 144 cells, from the bottom up to a height. */
  static LayerSlicer plate(int top, int thickness) {
    LayerSlicer x = new LayerSlicer();
    box(x, at(0, 0, 0), at(120, 120, top));
    x.layers(thickness);
    return x;
  }

  /** A pillar of cells 1 .. 3 in layers 0 .. 3, on it in layer 4 a plate of cells 1 .. 9, all in rows 1 .. 3. */
  static LayerSlicer table() {
    LayerSlicer x = new LayerSlicer();
    box(x, at(10, 10, 0), at(40, 40, 40));
    box(x, at(10, 10, 40), at(100, 40, 60));
    x.layers(11);
    return x;
  }

  /** A disc: a middle corner and a rim, whose edges are open from each corner to the one before it. */
  static int disc(LayerSlicer x, int rim, int z) {
    int middle = x.corner(0, 120, z);
    for (int i = 0; i < rim; i++) {
      // A curve, so that no two of the rim are on one line with the middle.
      x.corner(i, i * i / 4, z);
    }
    for (int i = 0; i < rim; i++) {
      x.tri(middle, middle + 1 + (i + 1) % rim, middle + 1 + i);
    }
    return middle;
  }

  /** Pairs of triangles that go both ways round, so that no edge of theirs is open. */
  static void pairs(LayerSlicer x, int pairs, int z) {
    int a = x.corner(0, 0, z);
    int b = x.corner(50, 0, z);
    int c = x.corner(0, 50, z);
    for (int i = 0; i < pairs; i++) {
      x.tri(a, b, c);
      x.tri(c, b, a);
    }
  }

  void triangleIs(LayerSlicer x, int t, int a, int b, int c) {
    due("triangle(" + t + ", 0)", x.triangle(t, 0), a);
    due("triangle(" + t + ", 1)", x.triangle(t, 1), b);
    due("triangle(" + t + ", 2)", x.triangle(t, 2), c);
  }
}
