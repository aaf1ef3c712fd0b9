import java.util.NoSuchElementException;

/** Counts and prints answers that are not as due, and builds the meshes that tests share. */
final class Check {
  private int wrong;
  private int looked;

  void due(String call, long got, long want) {
    looked++;
    if (got != want) {
      wrong++;
      System.out.println(call + " answered " + got + ", due is " + want);
    }
  }

  void due(String call, boolean got, boolean want) {
    due(call, got ? 1 : 0, want ? 1 : 0);
  }

  void cutThrows(LayerSlicer x, int layer, int t, int end, int what) {
    boolean thrown = false;
    try {
      x.cut(layer, t, end, what);
    } catch (NoSuchElementException e) {
      thrown = true;
    }
    due("cut(" + layer + ", " + t + ", " + end + ", " + what + ") throws", thrown, true);
  }

  void pathThrows(LayerSlicer x, int layer, int i, int what) {
    boolean thrown = false;
    try {
      x.path(layer, i, what);
    } catch (NoSuchElementException e) {
      thrown = true;
    }
    due("path(" + layer + ", " + i + ", " + what + ") throws", thrown, true);
  }

  void end() {
    System.out.println(wrong == 0 ? looked + " answers, all as due" : wrong + " answers are not as due");
    if (wrong != 0) {
      System.exit(1);
    }
  }

  /** The 12 triangles of a box over corners numbered by bits: 1 for the far x, 2 for the far y, 4 for the far z. */
  static final int[][] BOX = {
    {0, 2, 3}, {0, 3, 1}, {4, 5, 7}, {4, 7, 6}, {0, 1, 5}, {0, 5, 4},
    {2, 6, 7}, {2, 7, 3}, {0, 4, 6}, {0, 6, 2}, {1, 3, 7}, {1, 7, 5}};

  /** Puts a box from one point to another into a slicer; the number of its first corner. */
  static int box(LayerSlicer x, int[] from, int[] to) {
    int first = boxCorners(x, from, to);
    for (int[] t : BOX) {
      x.tri(first + t[0], first + t[1], first + t[2]);
    }
    return first;
  }

  static int boxCorners(LayerSlicer x, int[] from, int[] to) {
    int first = LayerSlicer.NONE;
    for (int i = 0; i < 8; i++) {
      int c = x.corner((i & 1) == 0 ? from[0] : to[0], (i & 2) == 0 ? from[1] : to[1], (i & 4) == 0 ? from[2] : to[2]);
      first = i == 0 ? c : first;
    }
    return first;
  }

  static int[] at(int x, int y, int z) {
    return new int[] {x, y, z};
  }
}
