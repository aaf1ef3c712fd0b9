import java.util.NoSuchElementException;
import java.util.Random;

/** Runs of calls drawn with a fixed seed, each answer compared with the model's; none is longer than 512 calls. */
public final class ModelTest {
  private static final int RUNS = 2000;
  private static final int CALLS = 512;
  private static final int MESH_CALLS = 200;

  private final Check check;
  private final Random random;
  private final int run;
  private final LayerSlicer slicer = new LayerSlicer();
  private final PlainModel model = new PlainModel();
  private int corners;
  private int calls;

  private ModelTest(Check check, int run) {
    this.check = check;
    this.run = run;
    random = new Random(run);
  }

  public static void main(String[] args) {
    Check check = new Check();
    for (int run = 0; run < RUNS; run++) {
      new ModelTest(check, run).compare();
    }
    check.end();
  }

  private void compare() {
    int shapes = 1 + random.nextInt(4);
    for (int i = 0; i < shapes && calls < MESH_CALLS; i++) {
      switch (random.nextInt(11)) {
        case 0, 1 -> soup();
        case 2, 3 -> fan();
        case 4 -> crowd();
        default -> box();
      }
    }
    if (random.nextInt(4) != 0) {
      same("mend", slicer.mend(), model.mend());
      mendedAll();
    }
    cutLayers();
    lookAtVolumes();
    lookAtCells(upTo(random.nextInt(3) == 0 ? 23 : 5));
    while (calls < CALLS) {
      anyCall();
    }
  }

  private void same(String call, int got, int want) {
    calls++;
    check.due("run " + run + ", call " + calls + ": " + call, got, want);
  }

  private int upTo(int most) {
    return random.nextInt(most + 1);
  }

  /** Mostly a number of those that are fine, now and then one beside them. */
  private int near(int most) {
    int draw = random.nextInt(40);
    if (draw == 0) {
      return -1;
    }
    if (draw == 1) {
      return most + 1;
    }
    if (draw == 2) {
      return random.nextBoolean() ? Integer.MAX_VALUE : Integer.MIN_VALUE;
    }
    return upTo(most);
  }

  private void corner(int x, int y, int z) {
    int number = model.corner(x, y, z);
    corners = Math.max(corners, number + 1);
    same("corner(" + x + ", " + y + ", " + z + ")", slicer.corner(x, y, z), number);
  }

  private void tri(int a, int b, int c) {
    same("tri(" + a + ", " + b + ", " + c + ")", slicer.tri(a, b, c), model.tri(a, b, c));
  }

  private void box() {
    int[] low = new int[3];
    int[] high = new int[3];
    for (int i = 0; i < 3; i++) {
      int a = upTo(12) * 10;
      int b = upTo(120);
      low[i] = Math.min(a, b);
      high[i] = Math.max(a, b);
    }
    int first = corners;
    int shear = random.nextInt(3) == 0 ? random.nextInt(31) - 15 : 0;
    for (int i = 0; i < 8; i++) {
      int x = (i & 1) == 0 ? low[0] : high[0];
      corner(Math.max(0, Math.min(120, x + ((i & 4) == 0 ? 0 : shear))), (i & 2) == 0 ? low[1] : high[1], (i & 4) == 0 ? low[2] : high[2]);
    }
    for (int[] t : Check.BOX) {
      int draw = random.nextInt(30);
      if (draw == 0) {
        continue;
      }
      int a = first + t[0];
      // A corner more at the same place, for mending to join.
      if (draw == 1 && a < corners) {
        int again = corners;
        corner((t[0] & 1) == 0 ? low[0] : high[0], (t[0] & 2) == 0 ? low[1] : high[1], (t[0] & 4) == 0 ? low[2] : high[2]);
        a = corners > again ? again : a;
      }
      if (draw == 2) {
        tri(a, first + t[2], first + t[1]);
      } else {
        tri(a, first + t[1], first + t[2]);
      }
    }
  }

  private void soup() {
    int n = 3 + upTo(20);
    int step = random.nextBoolean() ? 60 : 1;
    for (int i = 0; i < n; i++) {
      corner(upTo(120 / step) * step, upTo(120 / step) * step, upTo(120 / step) * step);
    }
    int triangles = upTo(40);
    for (int i = 0; i < triangles; i++) {
      tri(near(corners - 1), near(corners - 1), near(corners - 1));
    }
  }

  /** As many corners and triangles as there may be, now and then more. */
  private void crowd() {
    for (int i = corners; i < 81 && calls < MESH_CALLS; i++) {
      corner(upTo(120), upTo(120), upTo(40));
    }
    int triangles = 60 + upTo(61);
    for (int i = 0; i < triangles && calls < CALLS / 2; i++) {
      tri(upTo(corners - 1), upTo(corners - 1), upTo(corners - 1));
    }
  }

  /** A disc with a rim of up to 18 corners: holes on both sides of the longest that is closed. */
  private void fan() {
    int rim = 3 + upTo(15);
    int first = corners;
    corner(upTo(120), upTo(120), upTo(120));
    for (int i = 0; i < rim; i++) {
      corner(upTo(120), upTo(120), upTo(120));
    }
    for (int i = 0; i < rim; i++) {
      tri(first, first + 1 + i, first + 1 + (i + 1) % rim);
    }
  }

  private void mendedAll() {
    for (int what = -1; what <= 4; what++) {
      same("mended(" + what + ")", slicer.mended(what), model.mended(what));
    }
  }

  private void cutLayers() {
    int thickness = near(41);
    same("layers(" + thickness + ")", slicer.layers(thickness), model.layers(thickness));
    if (thickness % 2 == 0 && calls < CALLS) {
      same("layers(5)", slicer.layers(5), model.layers(5));
    }
  }

  private void lookAtVolumes() {
    for (int kind = 0; kind <= 6; kind++) {
      same("volume(" + kind + ")", slicer.volume(kind), model.volume(kind));
    }
  }

  private void lookAtCells(int layer) {
    for (int i = 0; i < 144 && calls < CALLS; i++) {
      int x = i % 12;
      int y = i / 12;
      same("kind(" + layer + ", " + x + ", " + y + ")", slicer.kind(layer, x, y), model.kind(layer, x, y));
    }
  }

  private void anyCall() {
    int layer = near(24);
    int x = near(12);
    int y = near(12);
    int i = near(30);
    switch (random.nextInt(24)) {
      case 0 -> corner(near(120), near(120), near(120));
      case 1 -> tri(near(corners), near(corners), near(corners));
      case 2 -> {
        if (random.nextInt(4) == 0) {
          same("mend", slicer.mend(), model.mend());
        }
      }
      case 3 -> same("mended", slicer.mended(x), model.mended(x));
      case 4 -> same("triangle(" + i + ", " + x + ")", slicer.triangle(i, x % 4), model.triangle(i, x % 4));
      case 5 -> {
        int axis = near(2);
        int quarters = near(3);
        same("turn(" + axis + ", " + quarters + ")", slicer.turn(axis, quarters) ? 1 : 0, model.turn(axis, quarters) ? 1 : 0);
      }
      case 6 -> {
        if (random.nextInt(4) == 0) {
          cutLayers();
        }
      }
      case 7, 8 -> cut(layer, i, near(1), near(2));
      case 9 -> same("solid", slicer.solid(layer, x, y), model.solid(layer, x, y));
      case 10 -> settings(near(3), near(3), near(6), near(3), near(2));
      case 11, 12 -> same("kind(" + layer + ", " + x + ", " + y + ")", slicer.kind(layer, x, y), model.kind(layer, x, y));
      case 13 -> same("paths(" + layer + ")", slicer.paths(layer), model.paths(layer));
      case 14, 15 -> path(layer, i, near(3));
      case 16 -> same("emit", slicer.emit(), model.emit());
      case 17 -> same("byteOf(" + i + ")", slicer.byteOf(i), model.byteOf(i));
      case 18 -> {
        int later = upTo(2000);
        same("byteOf(" + later + ")", slicer.byteOf(later), model.byteOf(later));
      }
      case 19, 20 -> same("play(" + i + ")", slicer.play(i), model.play(i));
      case 21 -> same("laid(" + layer + ", " + x + ", " + y + ")", slicer.laid(layer, x, y), model.laid(layer, x, y));
      case 22 -> same("overhang(" + layer + ")", slicer.overhang(layer), model.overhang(layer));
      default -> same("volume(" + x + ")", slicer.volume(x), model.volume(x));
    }
  }

  private void settings(int... s) {
    same("settings", slicer.settings(s[0], s[1], s[2], s[3], s[4]) ? 1 : 0, model.settings(s) ? 1 : 0);
  }

  private void cut(int layer, int t, int end, int what) {
    int got;
    int want;
    try {
      got = slicer.cut(layer, t, end, what);
    } catch (NoSuchElementException e) {
      got = Integer.MIN_VALUE;
    }
    try {
      want = model.cut(layer, t, end, what);
    } catch (NoSuchElementException e) {
      want = Integer.MIN_VALUE;
    }
    same("cut(" + layer + ", " + t + ", " + end + ", " + what + ")", got, want);
  }

  private void path(int layer, int i, int what) {
    int got;
    int want;
    try {
      got = slicer.path(layer, i, what);
    } catch (NoSuchElementException e) {
      got = Integer.MIN_VALUE;
    }
    try {
      want = model.path(layer, i, what);
    } catch (NoSuchElementException e) {
      want = Integer.MIN_VALUE;
    }
    same("path(" + layer + ", " + i + ", " + what + ")", got, want);
  }
}
