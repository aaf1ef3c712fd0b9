import java.util.ArrayList;
import java.util.List;
import java.util.NoSuchElementException;
import java.util.function.Consumer;
import java.util.function.ObjIntConsumer;

/**
 * "Calls with numbers that are not as said are refused, changing nothing": an object with such a call answers all
 * that comes behind as one without it, and so behind a call that only asks. Each look takes an object of its own, as
 * an object has 512 calls.
 */
public final class RefusedTest {
  private static final Check CHECK = new Check();
  private static final int LEAST = Integer.MIN_VALUE;
  private static final int GREATEST = Integer.MAX_VALUE;
  private static final int[] LAYERS = {0, 1, 4};

  private record Named<T>(String name, T what) {
  }

  private static final List<Named<Consumer<LayerSlicer>>> IDLE = new ArrayList<>();
  private static final List<Named<Consumer<Seen>>> LOOKS = new ArrayList<>();

  /** An object, and what it has answered. */
  private record Seen(LayerSlicer x, StringBuilder answers) {
    void add(long answer) {
      answers.append(answer).append(' ');
    }
  }

  public static void main(String[] args) {
    refusedCalls();
    askingCalls();
    looks();
    compare("a new object", x -> { }, IDLE);
    compare("a printed one", RefusedTest::printed, IDLE);
    List<Named<Consumer<LayerSlicer>>> more = new ArrayList<>(IDLE);
    more.add(new Named<>("corner(1, 1, 1) when 80 are there", x -> x.corner(1, 1, 1)));
    more.add(new Named<>("tri(0, 1, 2) when 120 are there", x -> x.tri(0, 1, 2)));
    compare("a full one", RefusedTest::full, more);
    CHECK.end();
  }

  private static void compare(String name, Consumer<LayerSlicer> made, List<Named<Consumer<LayerSlicer>>> calls) {
    for (Named<Consumer<Seen>> look : LOOKS) {
      String without = seenBy(made, x -> { }, look.what());
      for (Named<Consumer<LayerSlicer>> call : calls) {
        boolean same = seenBy(made, call.what(), look.what()).equals(without);
        CHECK.due(name + ", " + look.name() + " the same behind " + call.name(), same, true);
      }
    }
  }

  private static String seenBy(Consumer<LayerSlicer> made, Consumer<LayerSlicer> call, Consumer<Seen> look) {
    Seen seen = new Seen(new LayerSlicer(), new StringBuilder());
    made.accept(seen.x());
    try {
      call.accept(seen.x());
    } catch (NoSuchElementException e) {
      // What a call throws is looked at by other tests; here only what it leaves behind.
    }
    look.accept(seen);
    return seen.answers().toString();
  }

  /** All of the state is in use: joined, dropped and closed, settings of its own, half played, turned since. */
  private static void printed(LayerSlicer x) {
    Check.box(x, Check.at(10, 10, 0), Check.at(50, 60, 40));
    Check.box(x, Check.at(10, 10, 40), Check.at(100, 70, 60));
    x.corner(50, 60, 40);
    x.tri(16, 7, 0);
    x.tri(0, 1, 2);
    x.mend();
    x.layers(11);
    x.settings(1, 1, 3, 1, 1);
    x.emit();
    x.play(7);
    x.turn(0, 1);
    x.corner(7, 8, 90);
    x.tri(17, 0, 3);
  }

  private static void full(LayerSlicer x) {
    Check.box(x, Check.at(10, 10, 0), Check.at(90, 60, 60));
    for (int i = 8; i < 80; i++) {
      x.corner(i, i * i / 60, 120 - i);
    }
    for (int i = 12; i < 120; i++) {
      x.tri(i % 80, (i + 7) % 80, (i + 30) % 80);
    }
    x.layers(11);
    x.emit();
    x.play(9);
  }

  private static void idle(String name, Consumer<LayerSlicer> call) {
    IDLE.add(new Named<>(name, call));
  }

  private static void each(String name, int[] numbers, ObjIntConsumer<LayerSlicer> call) {
    for (int n : numbers) {
      idle(name + " with " + n, x -> call.accept(x, n));
    }
  }

  private static void refusedCalls() {
    int[] offLattice = {LEAST, -1, 121, 256, GREATEST};
    each("corner(., 0, 0)", offLattice, (x, n) -> x.corner(n, 0, 0));
    each("corner(0, ., 0)", offLattice, (x, n) -> x.corner(0, n, 0));
    each("corner(0, 0, .)", offLattice, (x, n) -> x.corner(0, 0, n));
    int[] noCorner = {LEAST, -1, 80, 256, GREATEST};
    each("tri(., 0, 1)", noCorner, (x, n) -> x.tri(n, 0, 1));
    each("tri(0, ., 1)", noCorner, (x, n) -> x.tri(0, n, 1));
    each("tri(0, 1, .)", noCorner, (x, n) -> x.tri(0, 1, n));
    each("mended", new int[] {LEAST, -1, 4, GREATEST}, (x, n) -> x.mended(n));
    each("triangle(., 0)", new int[] {LEAST, -1, 120, GREATEST}, (x, n) -> x.triangle(n, 0));
    each("triangle(0, .)", new int[] {LEAST, -1, 3, GREATEST}, (x, n) -> x.triangle(0, n));
    each("turn(., 1)", new int[] {LEAST, -1, 3, GREATEST}, (x, n) -> x.turn(n, 1));
    each("turn(1, .)", new int[] {LEAST, -1, 4, 5, GREATEST}, (x, n) -> x.turn(1, n));
    each("layers", new int[] {LEAST, -41, -1, 0, 2, 12, 40, 42, 43, 257, GREATEST}, (x, n) -> x.layers(n));
    each("settings(., 0, 0, 0, 1)", new int[] {LEAST, -1, 4, GREATEST}, (x, n) -> x.settings(n, 0, 0, 0, 1));
    each("settings(0, ., 0, 0, 1)", new int[] {LEAST, -1, 4, GREATEST}, (x, n) -> x.settings(0, n, 0, 0, 1));
    each("settings(0, 0, ., 0, 1)", new int[] {LEAST, -1, 7, GREATEST}, (x, n) -> x.settings(0, 0, n, 0, 1));
    each("settings(0, 0, 0, ., 1)", new int[] {LEAST, -1, 4, GREATEST}, (x, n) -> x.settings(0, 0, 0, n, 1));
    each("settings(0, 0, 0, 0, .)", new int[] {LEAST, -1, 3, GREATEST}, (x, n) -> x.settings(0, 0, 0, 0, n));
    each("cut(., 0, 0, 0)", new int[] {LEAST, -1, 24, GREATEST}, (x, n) -> x.cut(n, 0, 0, 0));
    each("cut(0, ., 0, 0)", new int[] {LEAST, -1, 120, GREATEST}, (x, n) -> x.cut(0, n, 0, 0));
    each("cut(0, 4, ., 0)", new int[] {LEAST, -1, 2, GREATEST}, (x, n) -> x.cut(0, 4, n, 0));
    each("cut(0, 4, 0, .)", new int[] {LEAST, -1, 3, GREATEST}, (x, n) -> x.cut(0, 4, 0, n));
    each("path(., 0, 0)", new int[] {LEAST, -1, 24, GREATEST}, (x, n) -> x.path(n, 0, 0));
    each("path(0, ., 0)", new int[] {LEAST, -1, 144, GREATEST}, (x, n) -> x.path(0, n, 0));
    each("path(0, 0, .)", new int[] {LEAST, -1, 4, GREATEST}, (x, n) -> x.path(0, 0, n));
    each("play", new int[] {LEAST, -1, 0}, (x, n) -> x.play(n));
    each("byteOf", new int[] {LEAST, -1, 17304, GREATEST}, (x, n) -> x.byteOf(n));
    each("volume", new int[] {LEAST, -1, 7, GREATEST}, (x, n) -> x.volume(n));
    int[] noLayer = {LEAST, -1, 24, GREATEST};
    each("paths", noLayer, (x, n) -> x.paths(n));
    each("overhang", noLayer, (x, n) -> x.overhang(n));
    int[] noCell = {LEAST, -1, 24, 32, GREATEST};
    each("solid", noCell, (x, n) -> x.solid(n, n, n));
    each("kind", noCell, (x, n) -> x.kind(0, n, 0));
    each("laid", noCell, (x, n) -> x.laid(0, 0, n));
  }

  private static void askingCalls() {
    each("mended", new int[] {0, 1, 2, 3}, (x, n) -> x.mended(n));
    each("volume", new int[] {0, 3, 6}, (x, n) -> x.volume(n));
    idle("triangle(0, 2)", x -> x.triangle(0, 2));
    idle("turn(2, 0)", x -> x.turn(2, 0));
    idle("cut(0, 4, 1, 2)", x -> x.cut(0, 4, 1, 2));
    idle("solid(0, 3, 3)", x -> x.solid(0, 3, 3));
    idle("kind(1, 3, 3)", x -> x.kind(1, 3, 3));
    idle("paths(1)", x -> x.paths(1));
    idle("path(1, 0, 3)", x -> x.path(1, 0, 3));
    idle("byteOf(0)", x -> x.byteOf(0));
    idle("laid(0, 1, 1)", x -> x.laid(0, 1, 1));
    idle("overhang(4)", x -> x.overhang(4));
  }

  private static void look(String name, Consumer<Seen> look) {
    LOOKS.add(new Named<>(name, look));
  }

  private static void looks() {
    for (int k = 0; k < 3; k++) {
      int corner = k;
      look("corners " + k + " of triangles", s -> triangles(s, corner));
    }
    for (int layer : LAYERS) {
      look("cuts of layer " + layer, s -> cuts(s, layer));
      look("kinds of layer " + layer, s -> cells(s, layer));
      look("paths of layer " + layer, s -> paths(s, layer));
    }
    look("the program", RefusedTest::bytes);
    look("playing", RefusedTest::playing);
    look("a new program", s -> {
      s.add(s.x().emit());
      bytes(s);
    });
    look("mending", s -> {
      s.add(s.x().mend());
      for (int what = 0; what <= 3; what++) {
        s.add(s.x().mended(what));
      }
      triangles(s, 1);
    });
    look("layers anew", RefusedTest::layersAnew);
    look("corners and triangles more", RefusedTest::more);
  }

  private static void triangles(Seen s, int k) {
    for (int t = 0; t < 120; t++) {
      s.add(s.x().triangle(t, k));
    }
  }

  private static void cuts(Seen s, int layer) {
    for (int t = 0; t < 40; t++) {
      for (int i = 0; i < 6; i++) {
        try {
          s.add(s.x().cut(layer, t, i / 3, i % 3));
        } catch (NoSuchElementException e) {
          s.add(-1);
        }
      }
    }
  }

  private static void cells(Seen s, int layer) {
    for (int i = 0; i < 144; i++) {
      s.add(s.x().kind(layer, i % 12, i / 12));
      s.add(s.x().laid(layer, i % 12, i / 12));
    }
    s.add(s.x().overhang(layer));
  }

  private static void paths(Seen s, int layer) {
    int paths = s.x().paths(layer);
    s.add(paths);
    for (int i = 0; i < 4 * Math.min(60, paths); i++) {
      s.add(s.x().path(layer, i / 4, i % 4));
    }
  }

  private static void bytes(Seen s) {
    for (int i = 0; i < 300; i++) {
      s.add(s.x().byteOf(i));
    }
  }

  private static void playing(Seen s) {
    for (int i = 0; i < 10; i++) {
      s.add(s.x().play(1));
    }
    for (int i = 0; i < 144; i++) {
      s.add(s.x().laid(0, i % 12, i / 12));
    }
    s.add(s.x().play(GREATEST));
    s.add(s.x().laid(4, 5, 5));
  }

  private static void layersAnew(Seen s) {
    s.add(s.x().layers(11));
    for (int kind = 0; kind <= 6; kind++) {
      s.add(s.x().volume(kind));
    }
    cells(s, 1);
  }

  private static void more(Seen s) {
    s.add(s.x().tri(0, 1, 2));
    s.add(s.x().corner(3, 4, 5));
    s.add(s.x().corner(3, 4, 6));
    s.add(s.x().tri(0, 1, 0));
    s.add(s.x().layers(5));
    for (int kind = 0; kind <= 6; kind++) {
      s.add(s.x().volume(kind));
    }
    for (int layer = 0; layer < 24; layer++) {
      s.add(s.x().overhang(layer));
      s.add(s.x().paths(layer));
    }
    cuts(s, 0);
  }
}
