import java.lang.reflect.Constructor;
import java.lang.reflect.Field;
import java.lang.reflect.Member;
import java.lang.reflect.Method;
import java.lang.reflect.Modifier;
import java.util.ArrayList;
import java.util.Arrays;
import java.util.Collections;
import java.util.List;

/** The public face: what the document tells and nothing else (rules 1, 2, 5 and 11 of LANGUAGE.md). */
final class FaceTest {
  private static final Check CHECK = new Check("FaceTest");
  private static final String[] FACE = {
    "public StrokeBook()",
    "public static final int BAD = -1", "public static final int STATE = -2",
    "public static final int FULL = -3", "public static final int NONE = -4",
    "public int point(int, int, boolean)", "public int clear()", "public int way()",
    "public int even(int, int)", "public int normal(int, int)", "public int teach(int, int)",
    "public int forget(int)", "public int undo()", "public int label(int, int)",
    "public int told(int, int)", "public int taught(int, int, int)", "public int ends(int, int)",
    "public int distance(int)", "public int nearest()", "public int read()", "public int mark()",
    "public int confused(int, int)", "public int between(int, int)",
    "public int command(int, int, int, int, int, int, int)", "public int parse(int)",
    "public int found(int, int, int)", "public int hidden()", "public int line(int)",
    "public int wipe()", "public int sheet(int, int, int)", "public int lay(int, int, int)",
    "public int scan(int, int, int, int)", "public int count(int)",
  };

  public static void main(String[] args) throws IllegalAccessException {
    int modifiers = StrokeBook.class.getModifiers();
    CHECK.holds("the class is public and final", Modifier.isPublic(modifiers) && Modifier.isFinal(modifiers));
    List<String> want = new ArrayList<>(Arrays.asList(FACE));
    List<String> got = face();
    Collections.sort(want);
    Collections.sort(got);
    CHECK.holds("the face is " + want + " and not " + got, want.equals(got));
    inside();
    CHECK.finish();
  }

  private static List<String> face() throws IllegalAccessException {
    List<String> face = new ArrayList<>();
    for (Constructor<?> made : StrokeBook.class.getDeclaredConstructors()) {
      if (!Modifier.isPrivate(made.getModifiers())) {
        face.add(Modifier.toString(made.getModifiers()) + " StrokeBook(" + types(made.getParameterTypes()) + ")");
      }
    }
    for (Method method : StrokeBook.class.getDeclaredMethods()) {
      if (!Modifier.isPrivate(method.getModifiers())) {
        face.add(Modifier.toString(method.getModifiers()) + " " + method.getReturnType().getSimpleName() + " "
            + method.getName() + "(" + types(method.getParameterTypes()) + ")");
      }
    }
    for (Field field : StrokeBook.class.getDeclaredFields()) {
      if (!Modifier.isPrivate(field.getModifiers())) {
        face.add(Modifier.toString(field.getModifiers()) + " " + field.getType().getSimpleName() + " "
            + field.getName() + " = " + field.get(null));
      }
    }
    return face;
  }

  private static String types(Class<?>[] types) {
    return String.join(", ", Arrays.stream(types).map(Class::getSimpleName).toList());
  }

  private static void inside() {
    List<Class<?>> classes = new ArrayList<>(Arrays.asList(StrokeBook.class.getDeclaredClasses()));
    for (Class<?> inner : classes) {
      CHECK.holds(inner + " is static", Modifier.isStatic(inner.getModifiers()));
      CHECK.holds(inner + " is not public", !Modifier.isPublic(inner.getModifiers()));
    }
    classes.add(StrokeBook.class);
    CHECK.holds("some twelve classes", classes.size() <= 12);
    List<String> open = Arrays.stream(StrokeBook.class.getDeclaredMethods())
        .filter(m -> Modifier.isPublic(m.getModifiers())).map(Method::getName).toList();
    for (Class<?> one : classes) {
      long fields = Arrays.stream(one.getDeclaredFields()).filter(f -> !isStatic(f)).count();
      CHECK.holds(one + " has some twenty fields", fields <= 20);
      for (Field field : one.getDeclaredFields()) {
        CHECK.holds(field + " is final", !isStatic(field) || Modifier.isFinal(field.getModifiers()));
      }
      for (Method method : one.getDeclaredMethods()) {
        CHECK.holds(method + " has seven parameters at most", method.getParameterCount() <= 7);
        boolean shown = one == StrokeBook.class && Modifier.isPublic(method.getModifiers());
        CHECK.holds(method + " bears no public name", shown || !open.contains(method.getName()));
      }
    }
  }

  private static boolean isStatic(Member member) {
    return Modifier.isStatic(member.getModifiers());
  }
}
