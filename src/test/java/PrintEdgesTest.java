/** Promises 15 to 18 at their edges: the program, its player and the beads. */
public final class PrintEdgesTest {
  private static final Check CHECK = new Check();
  private static final int NONE = LayerSlicer.NONE;

  public static void main(String[] args) {
    emitWithoutPaths();
    emitOfWhatIsNow();
    emitOfTheFullObject();
    bytesOfNoProgram();
    bytesOutside();
    bytesOfEachCommand();
    playOfNoCommands();
    playOneByOne();
    playUpToTheEnd();
    playGoesUpThroughOpenLayers();
    playGoesOnBehindOtherCalls();
    laidOutside();
    laidOnEachCell();
    laidInAllLayers();
    laidOnceThoughEmittedTwice();
    twoObjectsAtOnce();
    CHECK.end();
  }

  private static void due(String call, long got, long want) {
    CHECK.due(call, got, want);
  }

  /** One layer of all 144 cells, a path a row: 61 bytes, 13 commands. */
  private static LayerSlicer sheet() {
    LayerSlicer x = Check.plate(1, 1);
    x.settings(0, 0, 1, 1, 0);
    return x;
  }

  private static void emitWithoutPaths() {
    LayerSlicer none = new LayerSlicer();
    due("emit without layers", none.emit(), 0);
    due("again", none.emit(), 0);
    LayerSlicer gaps = Check.plate(120, 5);
    gaps.settings(0, 0, 0, 0, 0);
    due("24 layers without a path", gaps.emit(), 24);
    for (int i = 0; i < 24; i++) {
      due("byteOf(" + i + ")", gaps.byteOf(i), 200);
    }
    due("byteOf(24)", gaps.byteOf(24), NONE);
    due("24 commands", gaps.play(1000), 24);
  }

  private static void emitOfWhatIsNow() {
    LayerSlicer x = sheet();
    due("emit", x.emit(), 61);
    x.settings(0, 0, 0, 1, 0);
    due("settings leave the program", x.byteOf(60), 12);
    due("emit by the settings now", x.emit(), 1);
    due("a shorter program ends sooner", x.byteOf(1), NONE);
    x.settings(0, 0, 2, 1, 0);
    due("emit of a longer one", x.emit(), 1 + 5 * 72);
    due("its last length", x.byteOf(360), 1);
    x.settings(9, 0, 2, 1, 0);
    due("refused settings are not those now", x.emit(), 361);
    x.layers(2);
    due("refused layers neither", x.emit(), 361);
    x.turn(0, 1);
    due("layers are as they were cut", x.emit(), 361);
    due("layers anew", x.layers(41), 3);
    // The sheet stands between the rows now: 119 to 120.
    due("emit of the layers now", x.emit(), 3);
  }

  private static void emitOfTheFullObject() {
    LayerSlicer x = Check.plate(120, 5);
    x.settings(0, 0, 2, 0, 0);
    // Layers of even number: 6 paths in each of 12 rows; of odd number: a path in each second row.
    int commands = 24 + 12 * 72 + 12 * 6;
    int bytes = 24 + 5 * (12 * 72 + 12 * 6);
    due("emit", x.emit(), bytes);
    due("the last byte", x.byteOf(bytes - 1), 12);
    due("behind it", x.byteOf(bytes), NONE);
    due("all commands but one", x.play(commands - 1), commands - 1);
    due("the last row is not laid", x.laid(23, 11, 10), 0);
    due("the last command", x.play(2), 1);
    due("now it is", x.laid(23, 11, 10), 1);
    due("emit again", x.emit(), bytes);
    due("nothing is laid", x.laid(23, 11, 10), 0);
    due("nothing is played", x.play(5000), commands);
  }

  private static void bytesOfNoProgram() {
    LayerSlicer x = new LayerSlicer();
    LayerSlicer cut = sheet();
    for (int i : Check.outside(0, 0)) {
      due("new: byteOf(" + i + ")", x.byteOf(i), NONE);
      due("before emit: byteOf(" + i + ")", cut.byteOf(i), NONE);
    }
    due("new: byteOf(0)", x.byteOf(0), NONE);
    due("before emit: byteOf(0)", cut.byteOf(0), NONE);
  }

  private static void bytesOutside() {
    LayerSlicer x = sheet();
    int length = x.emit();
    for (int i : Check.outside(0, length - 1)) {
      due("byteOf(" + i + ")", x.byteOf(i), NONE);
    }
    due("byteOf(0)", x.byteOf(0), 200);
    due("byteOf(60)", x.byteOf(60), 12);
    x.play(1000);
    due("a played program is there still", x.byteOf(0), 200);
    due("wholly", x.byteOf(60), 12);
  }

  private static void bytesOfEachCommand() {
    LayerSlicer x = Check.table();
    int length = x.emit();
    int at = 0;
    for (int layer = 0; layer < 5; layer++) {
      due("a layer's byte", x.byteOf(at), 200);
      at++;
      int paths = x.paths(layer);
      for (int i = 0; i < paths; i++) {
        due("a path's byte", x.byteOf(at), 201);
        due("its x", x.byteOf(at + 1), x.path(layer, i, 1));
        due("its y", x.byteOf(at + 2), x.path(layer, i, 2));
        due("its kind", x.byteOf(at + 3), x.path(layer, i, 0));
        due("its length", x.byteOf(at + 4), x.path(layer, i, 3));
        at += 5;
      }
    }
    due("the whole length", at, length);
  }

  private static void playOfNoCommands() {
    LayerSlicer none = new LayerSlicer();
    LayerSlicer x = sheet();
    due("before emit: play(1)", x.play(1), 0);
    x.emit();
    int[] less = {0, -1, -2, -13, -61, Integer.MIN_VALUE, Integer.MIN_VALUE + 1, -(1 << 30)};
    for (int n : less) {
      due("play(" + n + ")", x.play(n), 0);
      due("new: play(" + n + ")", none.play(n), 0);
      due("no bead", x.laid(0, 0, 0), 0);
    }
    due("new: play(greatest)", none.play(Integer.MAX_VALUE), 0);
    due("all is to be played still", x.play(1000), 13);
    for (int n : less) {
      due("behind the end: play(" + n + ")", x.play(n), 0);
    }
    due("the beads lie", x.laid(0, 11, 11), 1);
  }

  private static void playOneByOne() {
    LayerSlicer x = sheet();
    x.emit();
    for (int command = 0; command < 13; command++) {
      due("play(1)", x.play(1), 1);
      for (int y = 0; y < 12; y++) {
        due("row " + y + " behind command " + command, x.laid(0, 0, y), y < command ? 1 : 0);
        due("its end", x.laid(0, 11, y), y < command ? 1 : 0);
      }
    }
    due("play(1) behind the end", x.play(1), 0);
    due("no second bead", x.laid(0, 0, 0), 1);
  }

  private static void playUpToTheEnd() {
    int[][] want = {{12, 12}, {13, 13}, {14, 13}, {1 << 16, 13}, {1 << 30, 13}, {Integer.MAX_VALUE, 13}};
    for (int[] w : want) {
      LayerSlicer x = sheet();
      x.emit();
      due("play(" + w[0] + ")", x.play(w[0]), w[1]);
      due("then play(greatest)", x.play(Integer.MAX_VALUE), 13 - w[1]);
      due("then nothing", x.play(Integer.MAX_VALUE), 0);
    }
    LayerSlicer x = sheet();
    x.emit();
    due("play(1)", x.play(1), 1);
    due("play(greatest) behind it", x.play(Integer.MAX_VALUE), 12);
  }

  private static void playGoesUpThroughOpenLayers() {
    LayerSlicer x = new LayerSlicer();
    Check.box(x, Check.at(0, 0, 0), Check.at(120, 120, 1));
    Check.box(x, Check.at(0, 0, 3), Check.at(120, 120, 4));
    due("layers", x.layers(1), 4);
    // All of layer 3 hangs over layers 1 and 2, which are support: reach does not matter here.
    x.settings(0, 0, 0, 0, 0);
    due("layers of gaps, two of support", x.emit(), 4 + 2 * 12 * 5);
    due("up to layer 1", x.play(2), 2);
    due("the first path", x.play(1), 1);
    due("in layer 0 nothing", x.laid(0, 0, 0), 0);
    due("in layer 1 a bead", x.laid(1, 0, 0), 1);
    due("in layer 2 not yet", x.laid(2, 0, 0), 0);
    due("the rest", x.play(100), 11 + 1 + 12 + 1);
    due("in layer 2 now", x.laid(2, 11, 11), 1);
    due("in layer 3 nothing", x.laid(3, 0, 0), 0);
  }

  private static void playGoesOnBehindOtherCalls() {
    LayerSlicer x = sheet();
    x.emit();
    x.play(3);
    x.settings(3, 3, 6, 3, 2);
    x.corner(5, 5, 120);
    x.tri(8, 0, 0);
    x.turn(2, 1);
    x.mend();
    x.layers(42);
    due("paths by other settings", x.paths(0), 6 + 6 * 3);
    due("two rows are laid", x.laid(0, 11, 1), 1);
    due("not the third", x.laid(0, 11, 2), 0);
    due("it goes on where it was", x.play(1), 1);
    due("with the third", x.laid(0, 11, 2), 1);
    due("up to the end", x.play(100), 9);
    due("the first one has one bead still", x.laid(0, 0, 0), 1);
  }

  private static void laidOutside() {
    LayerSlicer x = sheet();
    x.emit();
    x.play(13);
    for (int out : Check.outside(0, 11)) {
      due("laid(0, " + out + ", 5)", x.laid(0, out, 5), 0);
      due("laid(0, 5, " + out + ")", x.laid(0, 5, out), 0);
    }
    for (int out : Check.outside(0, 0)) {
      due("laid(" + out + ", 5, 5)", x.laid(out, 5, 5), 0);
    }
    due("laid(0, 0, 0)", x.laid(0, 0, 0), 1);
    due("laid(0, 11, 11)", x.laid(0, 11, 11), 1);
    due("laid(0, 11, 0)", x.laid(0, 11, 0), 1);
    due("laid(0, 0, 11)", x.laid(0, 0, 11), 1);
    LayerSlicer high = Check.plate(120, 5);
    high.settings(0, 0, 1, 1, 0);
    high.emit();
    high.play(1000);
    for (int layer = 0; layer < 24; layer++) {
      due("behind the rows of layer " + layer + " the next one's are not told", high.laid(layer, 5, 12), 0);
      due("before them the last one's are not", high.laid(layer, 5, -1), 0);
      due("behind a row the next one is not", high.laid(layer, 12, 5), 0);
      due("before it the last one is not", high.laid(layer, -1, 5), 0);
    }
    for (int out : Check.outside(0, 23)) {
      due("of 24 layers: laid(" + out + ", 5, 5)", high.laid(out, 5, 5), 0);
    }
  }

  private static void laidOnEachCell() {
    LayerSlicer x = sheet();
    x.settings(0, 0, 5, 1, 0);
    x.emit();
    due("play", x.play(1000), 1 + 36);
    for (int i = 0; i < 144; i++) {
      due("laid on " + i % 12 + ", " + i / 12, x.laid(0, i % 12, i / 12), i % 12 % 5 == 0 ? 1 : 0);
    }
  }

  private static void laidInAllLayers() {
    LayerSlicer x = Check.plate(120, 5);
    x.settings(0, 0, 1, 1, 0);
    due("emit", x.emit(), 24 * 61);
    for (int layer = 0; layer < 24; layer++) {
      due("before layer " + layer, x.laid(layer, 0, 0), 0);
      due("play(13)", x.play(13), 13);
      due("layer " + layer, x.laid(layer, 11, 11), 1);
      due("the layer above", x.laid(layer + 1, 0, 0), 0);
    }
    due("no more", x.play(13), 0);
    due("layer 24", x.laid(24, 0, 0), 0);
    due("layer -1", x.laid(-1, 0, 0), 0);
  }

  private static void laidOnceThoughEmittedTwice() {
    LayerSlicer x = sheet();
    x.emit();
    x.play(5);
    x.emit();
    for (int i = 0; i < 144; i++) {
      due("nothing laid", x.laid(0, i % 12, i / 12), 0);
    }
    due("from the beginning", x.play(2), 2);
    due("in layer 0", x.laid(0, 0, 0), 1);
    due("none above", x.laid(1, 0, 0), 0);
  }

  /** "All memory is the class's own": an object leaves the others alone. */
  private static void twoObjectsAtOnce() {
    LayerSlicer x = sheet();
    LayerSlicer other = Check.table();
    x.emit();
    other.emit();
    x.play(13);
    due("the other's beads", other.laid(0, 1, 1), 0);
    other.settings(0, 0, 0, 0, 0);
    other.turn(0, 1);
    other.layers(41);
    other.mend();
    due("the beads", x.laid(0, 1, 1), 1);
    due("the kinds", x.kind(0, 0, 0), 3);
    due("the triangles", x.mended(3), 12);
    due("the program", x.byteOf(60), 12);
    due("a new one is empty", new LayerSlicer().mended(3), 0);
  }
}
