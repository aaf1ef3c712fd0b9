import java.util.ArrayList;
import java.util.Arrays;
import java.util.List;
import java.util.NoSuchElementException;
import java.util.TreeMap;

/** The document followed word by word, without any care for speed: what LayerSlicer is compared with. */
final class PlainModel {
  private final List<int[]> corners = new ArrayList<>();
  private List<int[]> triangles = new ArrayList<>();
  private int joined;
  private int dropped;
  private int closed;
  /** For each layer its cut triangles: null, or the two ends with denominator, x and y. */
  private List<int[][][]> cuts = new ArrayList<>();
  private List<boolean[][]> solids = new ArrayList<>();
  private int[] set = {1, 1, 2, 1, 0};
  private int[][][] kinds;
  private List<Integer> program = new ArrayList<>();
  private int at;
  private int playLayer = -1;
  private int[][][] beads = new int[24][12][12];

  int corner(int x, int y, int z) {
    int[] c = {x, y, z};
    if (corners.size() >= 80 || Arrays.stream(c).anyMatch(v -> v < 0 || v > 120)) {
      return -1;
    }
    corners.add(c);
    return corners.size() - 1;
  }

  int tri(int a, int b, int c) {
    int[] t = {a, b, c};
    if (triangles.size() >= 120 || Arrays.stream(t).anyMatch(v -> v < 0 || v >= corners.size())) {
      return -1;
    }
    triangles.add(t);
    return triangles.size() - 1;
  }

  int mend() {
    boolean[] counted = new boolean[corners.size()];
    for (int[] t : triangles) {
      for (int k = 0; k < 3; k++) {
        int lowest = t[k];
        for (int c = t[k]; c >= 0; c--) {
          lowest = Arrays.equals(corners.get(c), corners.get(t[k])) ? c : lowest;
        }
        if (lowest != t[k] && !counted[t[k]]) {
          counted[t[k]] = true;
          joined++;
        }
        t[k] = lowest;
      }
    }
    List<int[]> kept = new ArrayList<>();
    for (int[] t : triangles) {
      boolean bad = t[0] == t[1] || t[1] == t[2] || t[2] == t[0] || area(t) == 0;
      if (!bad) {
        kept.add(t);
      }
    }
    dropped += triangles.size() - kept.size();
    triangles = kept;
    while (closeHole()) {
      closed++;
    }
    int sum = 0;
    for (int a = 0; a < corners.size(); a++) {
      for (int open : openFrom(a).values()) {
        sum += open;
      }
    }
    return sum;
  }

  private long area(int[] t) {
    int[] a = corners.get(t[0]);
    int[] b = corners.get(t[1]);
    int[] c = corners.get(t[2]);
    long sum = 0;
    for (int i = 0; i < 3; i++) {
      int j = (i + 1) % 3;
      long part = (long) (b[i] - a[i]) * (c[j] - a[j]) - (long) (b[j] - a[j]) * (c[i] - a[i]);
      sum += part * part;
    }
    return sum;
  }

  private TreeMap<Integer, Integer> openFrom(int a) {
    TreeMap<Integer, Integer> open = new TreeMap<>();
    for (int[] t : triangles) {
      for (int k = 0; k < 3; k++) {
        if (t[k] == a) {
          open.merge(t[(k + 1) % 3], 1, Integer::sum);
        }
        if (t[(k + 1) % 3] == a) {
          open.merge(t[k], -1, Integer::sum);
        }
      }
    }
    open.values().removeIf(v -> v <= 0);
    return open;
  }

  private boolean closeHole() {
    for (int first = 0; first < corners.size(); first++) {
      List<Integer> v = new ArrayList<>();
      int c = first;
      boolean good = true;
      do {
        TreeMap<Integer, Integer> open = openFrom(c);
        good = open.size() == 1 && open.firstEntry().getValue() == 1 && !v.contains(c) && v.size() < 16;
        v.add(c);
        c = good ? open.firstKey() : c;
      } while (good && c != first);
      if (good && v.size() >= 3 && triangles.size() + v.size() - 2 <= 120) {
        for (int k = 1; k <= v.size() - 2; k++) {
          triangles.add(new int[] {first, v.get(k + 1), v.get(k)});
        }
        return true;
      }
    }
    return false;
  }

  int mended(int what) {
    return what == 0 ? joined : what == 1 ? dropped : what == 2 ? closed : what == 3 ? triangles.size() : -1;
  }

  int triangle(int t, int k) {
    return t < 0 || t >= triangles.size() || k < 0 || k > 2 ? -1 : triangles.get(t)[k];
  }

  boolean turn(int axis, int quarters) {
    if (axis < 0 || axis > 2 || quarters < 0 || quarters > 3) {
      return false;
    }
    for (int q = 0; q < quarters; q++) {
      for (int i = 0; i < corners.size(); i++) {
        int[] c = corners.get(i);
        int[] turned = axis == 0 ? new int[] {c[0], 120 - c[2], c[1]}
            : axis == 1 ? new int[] {c[2], c[1], 120 - c[0]} : new int[] {120 - c[1], c[0], c[2]};
        corners.set(i, turned);
      }
    }
    return true;
  }

  int layers(int thickness) {
    if (thickness < 1 || thickness > 41 || thickness % 2 == 0) {
      return -1;
    }
    int top = 0;
    for (int[] t : triangles) {
      for (int c : t) {
        top = Math.max(top, corners.get(c)[2]);
      }
    }
    cuts = new ArrayList<>();
    solids = new ArrayList<>();
    for (int k = 0; k < 24 && k * thickness + thickness / 2.0 < top; k++) {
      int[][][] ends = new int[triangles.size()][][];
      for (int t = 0; t < ends.length; t++) {
        ends[t] = cutOf(triangles.get(t), 2 * k * thickness + thickness);
      }
      cuts.add(ends);
      solids.add(solidOf(ends));
    }
    kinds = null;
    program = new ArrayList<>();
    rewind();
    return solids.size();
  }

  private int[][] cutOf(int[] t, int twiceHeight) {
    List<int[]> found = new ArrayList<>();
    for (int k = 0; k < 3; k++) {
      int[] p = corners.get(t[k]);
      int[] q = corners.get(t[(k + 1) % 3]);
      if (p[2] > q[2]) {
        int[] other = p;
        p = q;
        q = other;
      }
      if (2 * p[2] < twiceHeight && 2 * q[2] > twiceHeight) {
        int d = (q[2] - p[2]) * 2;
        int rise = twiceHeight - 2 * p[2];
        found.add(new int[] {d, p[0] * d + (q[0] - p[0]) * rise, p[1] * d + (q[1] - p[1]) * rise});
      }
    }
    return found.size() == 2 ? found.toArray(new int[0][]) : null;
  }

  private static boolean[][] solidOf(int[][][] ends) {
    int[][] crossings = new int[12][12];
    for (int[][] e : ends) {
      for (int y = 0; e != null && y < 12; y++) {
        Fraction cy = new Fraction(20 * y + 9, 2);
        Fraction y0 = new Fraction(e[0][2], e[0][0]);
        Fraction y1 = new Fraction(e[1][2], e[1][0]);
        if ((y0.compareTo(cy) <= 0) != (y1.compareTo(cy) <= 0)) {
          Fraction x0 = new Fraction(e[0][1], e[0][0]);
          Fraction x1 = new Fraction(e[1][1], e[1][0]);
          Fraction crossing = x0.plus(x1.minus(x0).times(cy.minus(y0)).over(y1.minus(y0)));
          for (int x = 0; x < 12; x++) {
            crossings[y][x] += crossing.compareTo(new Fraction(20 * x + 9, 2)) < 0 ? 1 : 0;
          }
        }
      }
    }
    boolean[][] solid = new boolean[12][12];
    for (int y = 0; y < 12; y++) {
      for (int x = 0; x < 12; x++) {
        solid[y][x] = crossings[y][x] % 2 == 1;
      }
    }
    return solid;
  }

  int cut(int layer, int t, int end, int what) {
    if (layer < 0 || layer >= cuts.size() || t < 0 || t >= cuts.get(layer).length || cuts.get(layer)[t] == null
        || end < 0 || end > 1 || what < 0 || what > 2) {
      throw new NoSuchElementException();
    }
    return cuts.get(layer)[t][end][what];
  }

  private boolean isSolid(int layer, int x, int y) {
    return layer >= 0 && layer < solids.size() && x >= 0 && x < 12 && y >= 0 && y < 12 && solids.get(layer)[y][x];
  }

  int solid(int layer, int x, int y) {
    return isSolid(layer, x, y) ? 1 : 0;
  }

  boolean settings(int... s) {
    int[] most = {3, 3, 6, 3, 2};
    for (int i = 0; i < 5; i++) {
      if (s[i] < 0 || s[i] > most[i]) {
        return false;
      }
    }
    set = s.clone();
    kinds = null;
    return true;
  }

  private int solidAround(int layer, int x, int y, int distance) {
    int n = 0;
    for (int nx = x - distance; nx <= x + distance; nx++) {
      for (int ny = y - distance; ny <= y + distance; ny++) {
        n += isSolid(layer, nx, ny) ? 1 : 0;
      }
    }
    return n;
  }

  private boolean hangs(int layer, int x, int y) {
    return layer > 0 && isSolid(layer, x, y) && solidAround(layer - 1, x, y, set[3]) == 0;
  }

  private int kindOf(int layer, int x, int y) {
    if (!isSolid(layer, x, y)) {
      return 0;
    }
    if (solidAround(layer, x, y, set[0]) < (2 * set[0] + 1) * (2 * set[0] + 1)) {
      return 1;
    }
    for (int d = 1; d <= set[1]; d++) {
      if (!isSolid(layer - d, x, y) || !isSolid(layer + d, x, y)) {
        return 2;
      }
    }
    return set[2] != 0 && (layer % 2 == 0 ? x : y) % set[2] == 0 ? 3 : 4;
  }

  private int[][][] kinds() {
    if (kinds != null) {
      return kinds;
    }
    kinds = new int[solids.size()][12][12];
    for (int layer = 0; layer < solids.size(); layer++) {
      for (int y = 0; y < 12; y++) {
        for (int x = 0; x < 12; x++) {
          kinds[layer][y][x] = isSolid(layer, x, y) ? kindOf(layer, x, y) : kinds[layer][y][x];
          for (int below = layer - 1; hangs(layer, x, y) && below >= 0 && !isSolid(below, x, y); below--) {
            kinds[below][y][x] = solidAround(below, x, y, set[4]) == 0 ? 5 : 6;
          }
        }
      }
    }
    return kinds;
  }

  int kind(int layer, int x, int y) {
    return layer >= 0 && layer < solids.size() && x >= 0 && x < 12 && y >= 0 && y < 12 ? kinds()[layer][y][x] : 0;
  }

  private List<int[]> pathsOf(int layer) {
    List<int[]> found = new ArrayList<>();
    for (int y = 0; layer >= 0 && layer < solids.size() && y < 12; y++) {
      int x = 0;
      while (x < 12) {
        int kind = kind(layer, x, y);
        int end = x;
        while (end < 12 && kind(layer, end, y) == kind) {
          end++;
        }
        if (kind == 1 || kind == 2 || kind == 3 || kind == 5) {
          found.add(new int[] {kind, x, y, end - x});
        }
        x = end;
      }
    }
    return found;
  }

  int paths(int layer) {
    return pathsOf(layer).size();
  }

  int path(int layer, int i, int what) {
    List<int[]> found = pathsOf(layer);
    if (i < 0 || i >= found.size() || what < 0 || what > 3) {
      throw new NoSuchElementException();
    }
    return found.get(i)[what];
  }

  int emit() {
    program = new ArrayList<>();
    rewind();
    for (int layer = 0; layer < solids.size(); layer++) {
      program.add(200);
      for (int[] p : pathsOf(layer)) {
        program.addAll(List.of(201, p[1], p[2], p[0], p[3]));
      }
    }
    return program.size();
  }

  private void rewind() {
    at = 0;
    playLayer = -1;
    beads = new int[24][12][12];
  }

  int byteOf(int i) {
    return i >= 0 && i < program.size() ? program.get(i) : -1;
  }

  int play(int n) {
    int played = 0;
    for (; played < n && at < program.size(); played++) {
      if (program.get(at) == 200) {
        playLayer++;
        at++;
        continue;
      }
      for (int i = 0; i < program.get(at + 4); i++) {
        beads[playLayer][program.get(at + 2)][program.get(at + 1) + i]++;
      }
      at += 5;
    }
    return played;
  }

  int laid(int layer, int x, int y) {
    return layer < 0 || layer >= 24 || x < 0 || x >= 12 || y < 0 || y >= 12 ? 0 : beads[layer][y][x];
  }

  int overhang(int layer) {
    int n = 0;
    for (int i = 0; i < 144; i++) {
      n += hangs(layer, i % 12, i / 12) ? 1 : 0;
    }
    return n;
  }

  int volume(int kind) {
    if (kind < 0 || kind > 6) {
      return -1;
    }
    int n = 0;
    for (int[][] layer : kinds()) {
      for (int[] row : layer) {
        n += (int) Arrays.stream(row).filter(k -> k == kind).count();
      }
    }
    return n;
  }

  private record Fraction(long n, long d) implements Comparable<Fraction> {
    Fraction {
      long g = gcd(Math.abs(n), Math.abs(d)) * (d < 0 ? -1 : 1);
      n /= g;
      d /= g;
    }

    private static long gcd(long a, long b) {
      return b == 0 ? a : gcd(b, a % b);
    }

    Fraction plus(Fraction o) {
      return new Fraction(n * o.d + o.n * d, d * o.d);
    }

    Fraction minus(Fraction o) {
      return new Fraction(n * o.d - o.n * d, d * o.d);
    }

    Fraction times(Fraction o) {
      return new Fraction(n * o.n, d * o.d);
    }

    Fraction over(Fraction o) {
      return new Fraction(n * o.d, d * o.n);
    }

    @Override
    public int compareTo(Fraction o) {
      return Long.compare(n * o.d, o.n * d);
    }
  }
}
