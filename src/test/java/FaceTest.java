import java.lang.reflect.Constructor;
import java.lang.reflect.Field;
import java.lang.reflect.Method;
import java.lang.reflect.Modifier;
import java.util.Set;
import java.util.TreeSet;

/** The class has the members of the document's face and shows no others. */
public final class FaceTest {
  private static final Set<String> FACE = Set.of(
      "int corner(int,int,int)", "int tri(int,int,int)", "int mend()", "int mended(int)", "int triangle(int,int)",
      "boolean turn(int,int)", "int layers(int)", "int cut(int,int,int,int) NoSuchElementException",
      "int solid(int,int,int)", "boolean settings(int,int,int,int,int)", "int kind(int,int,int)", "int paths(int)",
      "int path(int,int,int) NoSuchElementException", "int emit()", "int byteOf(int)", "int play(int)",
      "int laid(int,int,int)", "int overhang(int)", "int volume(int)");

  public static void main(String[] args) {
    Check check = new Check();
    check.due("the class is public and final",
        Modifier.isPublic(LayerSlicer.class.getModifiers()) && Modifier.isFinal(LayerSlicer.class.getModifiers()), true);
    lookAtMethods(check);
    lookAtFields(check);
    Constructor<?>[] constructors = LayerSlicer.class.getDeclaredConstructors();
    check.due("constructors", constructors.length, 1);
    check.due("constructor parameters", constructors[0].getParameterCount(), 0);
    check.due("constructor is public", Modifier.isPublic(constructors[0].getModifiers()), true);
    for (Class<?> inside : LayerSlicer.class.getDeclaredClasses()) {
      check.due(inside.getName() + " is static", Modifier.isStatic(inside.getModifiers()), true);
    }
    check.due("NONE", LayerSlicer.NONE, -1);
    check.end();
  }

  private static void lookAtMethods(Check check) {
    Set<String> shown = new TreeSet<>();
    for (Method m : LayerSlicer.class.getDeclaredMethods()) {
      if (Modifier.isPublic(m.getModifiers())) {
        shown.add(written(m));
      } else {
        check.due(m.getName() + " is private", Modifier.isPrivate(m.getModifiers()), true);
        check.due(m.getName() + " has a name of the face", FACE.stream().anyMatch(f -> f.contains(" " + m.getName() + "(")), false);
      }
    }
    for (String face : FACE) {
      check.due(face + " is there", shown.contains(face), true);
    }
    check.due("public methods", shown.size(), FACE.size());
  }

  private static String written(Method m) {
    StringBuilder text = new StringBuilder(m.getReturnType().getSimpleName()).append(' ').append(m.getName()).append('(');
    String comma = "";
    for (Class<?> p : m.getParameterTypes()) {
      text.append(comma).append(p.getSimpleName());
      comma = ",";
    }
    text.append(')');
    for (Class<?> e : m.getExceptionTypes()) {
      text.append(' ').append(e.getSimpleName());
    }
    return text.toString();
  }

  private static void lookAtFields(Check check) {
    for (Field f : LayerSlicer.class.getDeclaredFields()) {
      boolean isFace = f.getName().equals("NONE");
      check.due(f.getName() + " is shown", !Modifier.isPrivate(f.getModifiers()), isFace);
      check.due(f.getName() + " is changing static state",
          Modifier.isStatic(f.getModifiers()) && !Modifier.isFinal(f.getModifiers()), false);
    }
  }
}
