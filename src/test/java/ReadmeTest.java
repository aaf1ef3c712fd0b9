import java.io.IOException;
import java.lang.reflect.Method;
import java.lang.reflect.Modifier;
import java.nio.file.Files;
import java.nio.file.Path;

/** What README.md says of the use of the class: its example answers as it says there, and it names every call. */
public final class ReadmeTest {
  private static final Check CHECK = new Check();

  public static void main(String[] args) throws IOException {
    String readme = Files.readString(Path.of("README.md"));
    example();
    exampleIsTheReadmes(readme, Files.readString(Path.of("src/test/java/ReadmeTest.java")));
    everyCallIsNamed(readme);
    CHECK.end();
  }

  private static void example() {
    LayerSlicer slicer = new LayerSlicer();
    int a = slicer.corner(10, 10, 0);
    int b = slicer.corner(70, 10, 0);
    int c = slicer.corner(10, 70, 0);
    int d = slicer.corner(10, 10, 60);
    slicer.tri(a, c, b);
    slicer.tri(a, b, d);
    slicer.tri(b, c, d);
    int open = slicer.mend();
    int triangles = slicer.mended(3);
    int count = slicer.layers(11);
    int below = slicer.cut(0, 1, 0, 0);
    int x = slicer.cut(0, 1, 0, 1);
    boolean taken = slicer.settings(1, 1, 2, 1, 0);
    int kind = slicer.kind(0, 2, 2);
    int paths = slicer.paths(0);
    int length = slicer.path(0, 0, 3);
    int bytes = slicer.emit();
    int played = slicer.play(1000);
    int beads = slicer.laid(0, 2, 2);
    CHECK.due("a", a, 0);
    CHECK.due("open", open, 0);
    CHECK.due("triangles", triangles, 4);
    CHECK.due("count", count, 5);
    CHECK.due("below", below, 120);
    CHECK.due("x", x, 7740);
    CHECK.due("taken", taken, true);
    CHECK.due("kind", kind, 2);
    CHECK.due("paths", paths, 7);
    CHECK.due("length", length, 5);
    CHECK.due("bytes", bytes, 90);
    CHECK.due("played", played, 22);
    CHECK.due("beads", beads, 1);
  }

  private static void exampleIsTheReadmes(String readme, String source) {
    String block = readme.split("```")[1];
    int lines = 0;
    for (String line : block.split("\n")) {
      String code = line.split("//")[0].strip();
      if (!code.isEmpty() && !code.equals("java")) {
        CHECK.due("this test has " + code, source.contains("    " + code + "\n"), true);
        lines++;
      }
    }
    CHECK.due("lines of the example", lines, 20);
  }

  private static void everyCallIsNamed(String readme) {
    for (Method m : LayerSlicer.class.getDeclaredMethods()) {
      if (Modifier.isPublic(m.getModifiers())) {
        CHECK.due("README.md names " + m.getName(), readme.contains("| `" + m.getName() + "("), true);
      }
    }
  }
}
