import java.util.Arrays;
import java.util.NoSuchElementException;

/** A slicer for printing in layers: mesh, mending, layers, cells and their kinds, paths, program and player. */
public final class LayerSlicer {
  public static final int NONE = -1;

  private static final int LATTICE_END = 120;
  private static final int MAX_CORNERS = 80;
  private static final int MAX_TRIANGLES = 120;
  private static final int MIN_HOLE = 3;
  private static final int MAX_HOLE = 16;
  private static final int MAX_THICKNESS = 41;
  private static final int MAX_LAYERS = 24;

  private static final int SIDE = 12;
  /** A row of cells is held as the bits of one number, cell x at bit x. */
  private static final int WHOLE_ROW = (1 << SIDE) - 1;

  private static final int NOTHING = 0;
  private static final int SHELL = 1;
  private static final int SKIN = 2;
  private static final int INFILL_LINE = 3;
  private static final int INFILL_GAP = 4;
  private static final int SUPPORT = 5;
  private static final int SUPPORT_GAP = 6;
  private static final int KINDS = 7;

  private static final int NEXT_LAYER = 200;
  private static final int LAY_RUN = 201;
  private static final int RUN_BYTES = 5;
  private static final int MAX_PROGRAM = MAX_LAYERS * (1 + RUN_BYTES * SIDE * SIDE);

  private final Mesh mesh;
  private final Mender mender;
  private final Slices slices;
  private final Sorter sorter;
  private final Router router;
  private final Printer printer;

  public LayerSlicer() {
    mesh = new Mesh();
    mender = new Mender();
    slices = new Slices();
    sorter = new Sorter();
    router = new Router();
    printer = new Printer();
  }

  public int corner(int x, int y, int z) {
    return mesh.addCorner(x, y, z);
  }

  public int tri(int a, int b, int c) {
    return mesh.addTriangle(a, b, c);
  }

  public int mend() {
    return mender.mendMesh(mesh);
  }

  public int mended(int what) {
    switch (what) {
      case 0:
        return mender.joined;
      case 1:
        return mender.dropped;
      case 2:
        return mender.closed;
      case 3:
        return mesh.triangles;
      default:
        return NONE;
    }
  }

  public int triangle(int t, int k) {
    if (t < 0 || t >= mesh.triangles || k < 0 || k > 2) {
      return NONE;
    }
    return mesh.named[3 * t + k];
  }

  public boolean turn(int axis, int quarters) {
    if (axis < 0 || axis > 2 || quarters < 0 || quarters > 3) {
      return false;
    }
    for (int i = 0; i < quarters; i++) {
      mesh.turnQuarter(axis);
    }
    return true;
  }

  public int layers(int thickness) {
    if (thickness < 1 || thickness > MAX_THICKNESS || thickness % 2 == 0) {
      return NONE;
    }
    slices.cutAnew(mesh, thickness);
    sorter.sortCells(slices);
    // A program of the layers before would lay beads on layers that may not be there any more.
    printer.clear();
    return slices.count;
  }

  public int cut(int layer, int t, int end, int what) throws NoSuchElementException {
    if (end < 0 || end > 1 || what < 0 || what > 2 || !slices.findEnds(layer, t)) {
      throw new NoSuchElementException();
    }
    return slices.ends[3 * end + what];
  }

  public int solid(int layer, int x, int y) {
    return x >= 0 && x < SIDE ? slices.solidRow(layer, y) >> x & 1 : 0;
  }

  public boolean settings(int shell, int skin, int period, int reach, int gap) {
    if (!sorter.accept(shell, skin, period, reach, gap)) {
      return false;
    }
    sorter.sortCells(slices);
    return true;
  }

  public int kind(int layer, int x, int y) {
    return slices.hasRow(layer, y) && x >= 0 && x < SIDE ? sorter.kindAt(layer, x, y) : NOTHING;
  }

  public int paths(int layer) {
    return slices.hasLayer(layer) ? router.findRuns(sorter, layer) : 0;
  }

  public int path(int layer, int i, int what) throws NoSuchElementException {
    if (what < 0 || what > 3 || i < 0 || !slices.hasLayer(layer) || i >= router.findRuns(sorter, layer)) {
      throw new NoSuchElementException();
    }
    return router.runs[4 * i + what];
  }

  public int emit() {
    printer.clear();
    for (int layer = 0; layer < slices.count; layer++) {
      printer.addLayer(router, router.findRuns(sorter, layer));
    }
    return printer.length;
  }

  public int byteOf(int i) {
    return i >= 0 && i < printer.length ? printer.program[i] : NONE;
  }

  public int play(int n) {
    return printer.playCommands(n);
  }

  public int laid(int layer, int x, int y) {
    return isCell(layer, x, y) ? printer.beads[cellIndex(layer, x, y)] : 0;
  }

  public int overhang(int layer) {
    return slices.hasLayer(layer) ? countCells(sorter.hanging, layer * SIDE, layer * SIDE + SIDE) : 0;
  }

  public int volume(int kind) {
    return kind >= 0 && kind < KINDS ? countCells(sorter.rowsOfKind[kind], 0, slices.count * SIDE) : NONE;
  }

  private static boolean isCell(int layer, int x, int y) {
    return layer >= 0 && layer < MAX_LAYERS && x >= 0 && x < SIDE && y >= 0 && y < SIDE;
  }

  private static int cellIndex(int layer, int x, int y) {
    return (layer * SIDE + y) * SIDE + x;
  }

  private static int countCells(int[] rows, int from, int to) {
    int sum = 0;
    for (int i = from; i < to; i++) {
      sum += Integer.bitCount(rows[i]);
    }
    return sum;
  }

  /** Corners and triangles; a second mesh keeps them as they were when the layers were cut. */
  private static final class Mesh {
    final int[] x = new int[MAX_CORNERS];
    final int[] y = new int[MAX_CORNERS];
    final int[] z = new int[MAX_CORNERS];
    int corners;
    /** Three corners for each triangle. */
    final int[] named = new int[3 * MAX_TRIANGLES];
    int triangles;

    int addCorner(int atX, int atY, int atZ) {
      if (corners == MAX_CORNERS || !onLattice(atX) || !onLattice(atY) || !onLattice(atZ)) {
        return NONE;
      }
      x[corners] = atX;
      y[corners] = atY;
      z[corners] = atZ;
      corners++;
      return corners - 1;
    }

    int addTriangle(int a, int b, int c) {
      if (triangles == MAX_TRIANGLES || !hasCorner(a) || !hasCorner(b) || !hasCorner(c)) {
        return NONE;
      }
      name(triangles, a, b, c);
      triangles++;
      return triangles - 1;
    }

    void name(int t, int a, int b, int c) {
      named[3 * t] = a;
      named[3 * t + 1] = b;
      named[3 * t + 2] = c;
    }

    void turnQuarter(int axis) {
      for (int i = 0; i < corners; i++) {
        int oldX = x[i];
        int oldY = y[i];
        if (axis == 0) {
          y[i] = LATTICE_END - z[i];
          z[i] = oldY;
        } else if (axis == 1) {
          x[i] = z[i];
          z[i] = LATTICE_END - oldX;
        } else {
          x[i] = LATTICE_END - oldY;
          y[i] = oldX;
        }
      }
    }

    boolean samePlace(int a, int b) {
      return x[a] == x[b] && y[a] == y[b] && z[a] == z[b];
    }

    /** Also true where two of the corners are the same, as these lie on one line with any third. */
    boolean onOneLine(int a, int b, int c) {
      int ux = x[b] - x[a];
      int uy = y[b] - y[a];
      int uz = z[b] - z[a];
      int vx = x[c] - x[a];
      int vy = y[c] - y[a];
      int vz = z[c] - z[a];
      return uy * vz == uz * vy && uz * vx == ux * vz && ux * vy == uy * vx;
    }

    /** The greatest z of the corners that triangles name: other corners do not raise the print. */
    int greatestZ() {
      int greatest = 0;
      for (int i = 0; i < 3 * triangles; i++) {
        greatest = Math.max(greatest, z[named[i]]);
      }
      return greatest;
    }

    void copyFrom(Mesh other) {
      corners = other.corners;
      triangles = other.triangles;
      System.arraycopy(other.x, 0, x, 0, corners);
      System.arraycopy(other.y, 0, y, 0, corners);
      System.arraycopy(other.z, 0, z, 0, corners);
      System.arraycopy(other.named, 0, named, 0, 3 * triangles);
    }

    private boolean hasCorner(int c) {
      return c >= 0 && c < corners;
    }

    private static boolean onLattice(int value) {
      return value >= 0 && value <= LATTICE_END;
    }
  }

  /** Mends a mesh and counts what all mending so far has done. */
  private static final class Mender {
    int joined;
    int dropped;
    int closed;
    private final int[] lowestHere = new int[MAX_CORNERS];
    private final boolean[] counted = new boolean[MAX_CORNERS];
    /** For corners a, b, at a * MAX_CORNERS + b: how many triangles more go from a to b than from b to a. */
    private final int[] balance = new int[MAX_CORNERS * MAX_CORNERS];
    /** For each corner how often edges from it are open, kept so that a walk round a hole is short. */
    private final int[] openFrom = new int[MAX_CORNERS];
    private final int[] hole = new int[MAX_HOLE];

    int mendMesh(Mesh mesh) {
      joinCorners(mesh);
      dropTriangles(mesh);
      weighEdges(mesh);
      boolean more = true;
      // Each closed hole brings a triangle at least, so there are never more rounds than triangles.
      for (int round = 0; more && round < MAX_TRIANGLES; round++) {
        more = closeFirstHole(mesh);
      }
      return openInAll(mesh.corners);
    }

    private void joinCorners(Mesh mesh) {
      for (int c = 0; c < mesh.corners; c++) {
        lowestHere[c] = lowestAtPlaceOf(mesh, c);
        counted[c] = false;
      }
      for (int i = 0; i < 3 * mesh.triangles; i++) {
        int c = mesh.named[i];
        if (lowestHere[c] != c && !counted[c]) {
          counted[c] = true;
          joined++;
        }
        mesh.named[i] = lowestHere[c];
      }
    }

    private static int lowestAtPlaceOf(Mesh mesh, int c) {
      for (int lower = 0; lower < c; lower++) {
        if (mesh.samePlace(lower, c)) {
          return lower;
        }
      }
      return c;
    }

    private void dropTriangles(Mesh mesh) {
      int kept = 0;
      for (int t = 0; t < mesh.triangles; t++) {
        int a = mesh.named[3 * t];
        int b = mesh.named[3 * t + 1];
        int c = mesh.named[3 * t + 2];
        if (!mesh.onOneLine(a, b, c)) {
          mesh.name(kept, a, b, c);
          kept++;
        }
      }
      dropped += mesh.triangles - kept;
      mesh.triangles = kept;
    }

    private void weighEdges(Mesh mesh) {
      Arrays.fill(balance, 0);
      Arrays.fill(openFrom, 0);
      for (int t = 0; t < mesh.triangles; t++) {
        addEdgesOf(mesh, t);
      }
    }

    private void addEdgesOf(Mesh mesh, int t) {
      int a = mesh.named[3 * t];
      int b = mesh.named[3 * t + 1];
      int c = mesh.named[3 * t + 2];
      addEdge(a, b);
      addEdge(b, c);
      addEdge(c, a);
    }

    private void addEdge(int a, int b) {
      // One more way from a to b either opens this edge once more or answers an open one from b to a.
      if (balance[a * MAX_CORNERS + b] >= 0) {
        openFrom[a]++;
      } else {
        openFrom[b]--;
      }
      balance[a * MAX_CORNERS + b]++;
      balance[b * MAX_CORNERS + a]--;
    }

    private boolean closeFirstHole(Mesh mesh) {
      for (int first = 0; first < mesh.corners; first++) {
        int edges = walkHole(first, mesh.corners);
        if (edges >= MIN_HOLE && mesh.triangles + edges - 2 <= MAX_TRIANGLES) {
          fillHole(mesh, edges);
          return true;
        }
      }
      return false;
    }

    /** Writes the corners round the hole that begins at a corner; the number of its edges, 0 when there is none. */
    private int walkHole(int first, int corners) {
      int at = first;
      for (int n = 0; n < MAX_HOLE; n++) {
        if (openFrom[at] != 1 || isInHole(at, n)) {
          return 0;
        }
        hole[n] = at;
        at = nextCorner(at, corners);
        if (at == first) {
          return n + 1;
        }
      }
      return 0;
    }

    private boolean isInHole(int corner, int n) {
      for (int i = 0; i < n; i++) {
        if (hole[i] == corner) {
          return true;
        }
      }
      return false;
    }

    private int nextCorner(int from, int corners) {
      for (int to = 0; to < corners; to++) {
        if (balance[from * MAX_CORNERS + to] > 0) {
          return to;
        }
      }
      return from;
    }

    private void fillHole(Mesh mesh, int edges) {
      for (int k = 1; k <= edges - 2; k++) {
        mesh.addTriangle(hole[0], hole[k + 1], hole[k]);
        addEdgesOf(mesh, mesh.triangles - 1);
      }
      closed++;
    }

    private int openInAll(int corners) {
      int sum = 0;
      for (int c = 0; c < corners; c++) {
        sum += openFrom[c];
      }
      return sum;
    }
  }

  /** The layers: the mesh as it was when they were cut, and the cells that are solid in them. */
  private static final class Slices {
    int count;
    /** The two ends of the cut found last, each with its denominator, its x and its y over it. */
    final int[] ends = new int[6];
    private int thickness;
    private final Mesh mesh = new Mesh();
    private final int[] solidRows = new int[MAX_LAYERS * SIDE];

    void cutAnew(Mesh now, int newThickness) {
      mesh.copyFrom(now);
      thickness = newThickness;
      int doubleTop = 2 * mesh.greatestZ();
      count = 0;
      for (int layer = 0; layer < MAX_LAYERS && doubleHeight(layer) < doubleTop; layer++) {
        count++;
        fillLayer(layer);
      }
    }

    boolean hasLayer(int layer) {
      return layer >= 0 && layer < count;
    }

    boolean hasRow(int layer, int y) {
      return hasLayer(layer) && y >= 0 && y < SIDE;
    }

    int solidRow(int layer, int y) {
      return hasRow(layer, y) ? solidRows[layer * SIDE + y] : 0;
    }

    /** The cells of a row round which all cells up to a distance are solid. */
    int rowAmongSolid(int layer, int y, int distance) {
      int among = WHOLE_ROW;
      for (int dy = -distance; dy <= distance; dy++) {
        int row = solidRow(layer, y + dy);
        for (int step = 0; step <= distance; step++) {
          among &= row >> step & row << step;
        }
      }
      return among;
    }

    /** The cells of a row that have a solid cell up to a distance. */
    int rowNearSolid(int layer, int y, int distance) {
      int near = 0;
      for (int dy = -distance; dy <= distance; dy++) {
        int row = solidRow(layer, y + dy);
        for (int step = 0; step <= distance; step++) {
          near |= row >> step | row << step;
        }
      }
      return near & WHOLE_ROW;
    }

    /** Writes the ends of the cut of a triangle by a layer; false when there is none. */
    boolean findEnds(int layer, int t) {
      if (!hasLayer(layer) || t < 0 || t >= mesh.triangles) {
        return false;
      }
      int found = 0;
      for (int k = 0; k < 3 && found < 2; k++) {
        int from = mesh.named[3 * t + k];
        int to = mesh.named[3 * t + (k + 1) % 3];
        if (isBelow(from, layer) != isBelow(to, layer)) {
          writeEnd(found, layer, isBelow(from, layer) ? from : to, isBelow(from, layer) ? to : from);
          found++;
        }
      }
      return found == 2;
    }

    private void writeEnd(int end, int layer, int p, int q) {
      int denominator = 2 * (mesh.z[q] - mesh.z[p]);
      int risen = doubleHeight(layer) - 2 * mesh.z[p];
      ends[3 * end] = denominator;
      ends[3 * end + 1] = mesh.x[p] * denominator + (mesh.x[q] - mesh.x[p]) * risen;
      ends[3 * end + 2] = mesh.y[p] * denominator + (mesh.y[q] - mesh.y[p]) * risen;
    }

    private boolean isBelow(int corner, int layer) {
      return 2 * mesh.z[corner] < doubleHeight(layer);
    }

    /** Twice the height is whole: heights are half a step off the lattice. */
    private int doubleHeight(int layer) {
      return (2 * layer + 1) * thickness;
    }

    private void fillLayer(int layer) {
      for (int y = 0; y < SIDE; y++) {
        solidRows[layer * SIDE + y] = 0;
      }
      for (int t = 0; t < mesh.triangles; t++) {
        if (findEnds(layer, t)) {
          for (int y = 0; y < SIDE; y++) {
            solidRows[layer * SIDE + y] ^= cellsRightOfCut(y);
          }
        }
      }
    }

    /** The cells of a row that have the cut found last to their left. */
    private int cellsRightOfCut(int y) {
      int centre = doubleCentre(y);
      int first = 2 * ends[2] - centre * ends[0];
      int second = 2 * ends[5] - centre * ends[3];
      if (first > 0 == second > 0) {
        return 0;
      }
      return first > 0 ? cellsRightOfLine(3, 0, -second, first) : cellsRightOfLine(0, 3, -first, second);
    }

    /**
     * The line meets the row at sum / whole, the mean of the ends' x, each weighed by the other end's distance
     * from the row. Cell x has it to its left if 20 x + 9 is more than 2 * sum / whole, so the first such x is
     * found by one division; it is 0 .. 12, as x is 0 .. 120 on the line.
     */
    private int cellsRightOfLine(int low, int high, long down, long up) {
      long sum = ends[low + 1] * up + ends[high + 1] * down;
      long whole = ends[low] * up + ends[high] * down;
      if (whole <= 0) {
        return 0;
      }
      int first = (int) ((2 * sum + 11 * whole) / (20 * whole));
      return WHOLE_ROW & WHOLE_ROW << first;
    }

    /** Twice the centre is whole too. */
    private static int doubleCentre(int cell) {
      return 20 * cell + 9;
    }
  }

  /** The settings, and the cells of the layers sorted by kind. */
  private static final class Sorter {
    /** For each kind the rows of all layers, row y of a layer at layer * SIDE + y. */
    final int[][] rowsOfKind = new int[KINDS][MAX_LAYERS * SIDE];
    final int[] hanging = new int[MAX_LAYERS * SIDE];
    private int shell = 1;
    private int skin = 1;
    private int period = 2;
    private int reach = 1;
    private int gap = 0;

    boolean accept(int newShell, int newSkin, int newPeriod, int newReach, int newGap) {
      if (!upTo(3, newShell) || !upTo(3, newSkin) || !upTo(6, newPeriod) || !upTo(3, newReach) || !upTo(2, newGap)) {
        return false;
      }
      shell = newShell;
      skin = newSkin;
      period = newPeriod;
      reach = newReach;
      gap = newGap;
      return true;
    }

    void sortCells(Slices slices) {
      for (int y = 0; y < SIDE; y++) {
        int underHanging = 0;
        // From above, as what hangs tells what is under it.
        for (int layer = slices.count - 1; layer >= 0; layer--) {
          sortSolid(slices, layer, y);
          sortOpen(slices, layer, y, underHanging);
          underHanging = underHanging & ~slices.solidRow(layer, y) | hanging[layer * SIDE + y];
        }
      }
    }

    int kindAt(int layer, int x, int y) {
      for (int kind = SHELL; kind < KINDS; kind++) {
        if ((rowsOfKind[kind][layer * SIDE + y] >> x & 1) == 1) {
          return kind;
        }
      }
      return NOTHING;
    }

    private void sortSolid(Slices slices, int layer, int y) {
      int at = layer * SIDE + y;
      int solid = slices.solidRow(layer, y);
      int inside = solid & slices.rowAmongSolid(layer, y, shell);
      int core = inside & rowBetweenSolid(slices, layer, y);
      int lines = lineCells(layer, y);
      rowsOfKind[SHELL][at] = solid & ~inside;
      rowsOfKind[SKIN][at] = inside & ~core;
      rowsOfKind[INFILL_LINE][at] = core & lines;
      rowsOfKind[INFILL_GAP][at] = core & ~lines;
      hanging[at] = layer > 0 ? solid & ~slices.rowNearSolid(layer - 1, y, reach) : 0;
    }

    private void sortOpen(Slices slices, int layer, int y, int underHanging) {
      int at = layer * SIDE + y;
      int open = WHOLE_ROW & ~slices.solidRow(layer, y);
      int under = open & underHanging;
      int near = slices.rowNearSolid(layer, y, gap);
      rowsOfKind[SUPPORT][at] = under & ~near;
      rowsOfKind[SUPPORT_GAP][at] = under & near;
      rowsOfKind[NOTHING][at] = open & ~under;
    }

    /** The cells of a row that are solid in all layers below and above that the skin looks at. */
    private int rowBetweenSolid(Slices slices, int layer, int y) {
      int between = WHOLE_ROW;
      for (int step = 1; step <= skin; step++) {
        between &= slices.solidRow(layer - step, y) & slices.solidRow(layer + step, y);
      }
      return between;
    }

    private int lineCells(int layer, int y) {
      if (period == 0) {
        return 0;
      }
      if (layer % 2 == 1) {
        return y % period == 0 ? WHOLE_ROW : 0;
      }
      int cells = 0;
      for (int x = 0; x < SIDE; x += period) {
        cells |= 1 << x;
      }
      return cells;
    }

    private static boolean upTo(int most, int value) {
      return value >= 0 && value <= most;
    }
  }

  /** Finds the paths of a layer. */
  private static final class Router {
    /** The paths found last, each with its kind, the x and y of its first cell, and its length. */
    final int[] runs = new int[4 * SIDE * SIDE];

    int findRuns(Sorter sorter, int layer) {
      int found = 0;
      for (int y = 0; y < SIDE; y++) {
        int before = NOTHING;
        for (int x = 0; x < SIDE; x++) {
          int kind = sorter.kindAt(layer, x, y);
          if (isPrinted(kind)) {
            if (kind != before) {
              beginRun(found, kind, x, y);
              found++;
            }
            runs[4 * found - 1]++;
          }
          before = kind;
        }
      }
      return found;
    }

    private void beginRun(int run, int kind, int x, int y) {
      runs[4 * run] = kind;
      runs[4 * run + 1] = x;
      runs[4 * run + 2] = y;
      runs[4 * run + 3] = 0;
    }

    private static boolean isPrinted(int kind) {
      return kind == SHELL || kind == SKIN || kind == INFILL_LINE || kind == SUPPORT;
    }
  }

  /** The program, its player, and the beads that are laid. */
  private static final class Printer {
    final int[] program = new int[MAX_PROGRAM];
    int length;
    final int[] beads = new int[MAX_LAYERS * SIDE * SIDE];
    private int at;
    private int layer = NONE;

    void clear() {
      length = 0;
      at = 0;
      layer = NONE;
      Arrays.fill(beads, 0);
    }

    void addLayer(Router router, int runs) {
      addByte(NEXT_LAYER);
      for (int i = 0; i < runs; i++) {
        addByte(LAY_RUN);
        addByte(router.runs[4 * i + 1]);
        addByte(router.runs[4 * i + 2]);
        addByte(router.runs[4 * i]);
        addByte(router.runs[4 * i + 3]);
      }
    }

    int playCommands(int most) {
      int played = 0;
      while (played < most && at < length) {
        if (program[at] == NEXT_LAYER) {
          layer++;
          at++;
        } else {
          layRun(program[at + 1], program[at + 2], program[at + 4]);
          at += RUN_BYTES;
        }
        played++;
      }
      return played;
    }

    private void addByte(int value) {
      program[length] = value;
      length++;
    }

    private void layRun(int x, int y, int cells) {
      for (int i = 0; i < cells; i++) {
        beads[cellIndex(layer, x + i, y)]++;
      }
    }
  }
}
