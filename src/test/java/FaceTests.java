import java.lang.reflect.Constructor;
import java.lang.reflect.Field;
import java.lang.reflect.Method;
import java.lang.reflect.Modifier;
import java.nio.file.Files;
import java.nio.file.Path;
import java.util.ArrayList;
import java.util.Collections;
import java.util.List;
import java.util.regex.Pattern;

/** The face that the document tells, and the rules of LANGUAGE.md that can be seen from outside. */
final class FaceTests {
  private static final String FACE = "all(int)int asks(int,int,int)int back()int best(int,int)int blind(int)int "
      + "cell(int,int,int)int clean(int,int)int copy(int,int,int,int,int)int count(int)int dims(int,int,int)int "
      + "drawn(int,int)int feed(int,int,int,int,int,int)int film(int,int,int)int force(int)int guess(int,int,int)int "
      + "hours(int)int image()int joins(int,int)int judge(int,int)int kinds(int,int,int)int laws(int,int)int "
      + "odds(int,int,int,int,int)long often(int)int put(int,int,int)int run(int,int,int)int sheet(int,int,int)int "
      + "show(int,int)int sleep()int sleeper(int,int,int)int sleepersBy(int,int,int,int)int taken(int,int)int "
      + "text()int told(int,int)int view(int,int)int way(int,int)int whom(int)int";
  private static final String[] FORBIDDEN = {
    "\\bthrow\\b", "\\btry\\b", "\\bcatch\\b", "\\bsynchronized\\b", "\\bassert\\b", "->", "::", "Exact\\b", "\\bpackage\\b",
    "\\bSystem\\.(?!arraycopy)", "\\bObject\\b", "@"
  };

  private FaceTests() {}

  static void all() throws Exception {
    constants();
    members();
    source();
  }

  private static void constants() {
    Check.due("NONE", DreamWindows.NONE, -1);
    Check.due("BAD", DreamWindows.BAD, -2);
    Check.due("STATE", DreamWindows.STATE, -3);
    Check.due("FULL", DreamWindows.FULL, -4);
    Check.due("NO", DreamWindows.NO, -4611686018427387904L);
  }

  private static void members() {
    List<String> seen = new ArrayList<>();
    for (Method m : DreamWindows.class.getDeclaredMethods()) {
      if (!Modifier.isPrivate(m.getModifiers())) {
        seen.add(told(m));
      }
    }
    Collections.sort(seen);
    Check.due("the face " + String.join(" ", seen), String.join(" ", seen).equals(FACE) ? 1 : 0, 1);
    for (Field f : DreamWindows.class.getDeclaredFields()) {
      boolean isFace = List.of("NONE", "BAD", "STATE", "FULL", "NO").contains(f.getName());
      Check.due("public field " + f.getName(), Modifier.isPublic(f.getModifiers()) ? 1 : 0, isFace ? 1 : 0);
      Check.due("private field " + f.getName(), Modifier.isPrivate(f.getModifiers()) ? 1 : 0, isFace ? 0 : 1);
    }
    Constructor<?>[] made = DreamWindows.class.getDeclaredConstructors();
    Check.due("constructors", made.length, 1);
    Check.due("its parameters", made[0].getParameterCount(), 0);
    Check.due("final", Modifier.isFinal(DreamWindows.class.getModifiers()) ? 1 : 0, 1);
    ownNames();
    sizes();
  }

  private static void ownNames() {
    for (Class<?> inside : DreamWindows.class.getDeclaredClasses()) {
      Check.due("static " + inside, Modifier.isStatic(inside.getModifiers()) ? 1 : 0, 1);
    }
    for (Method m : DreamWindows.class.getDeclaredMethods()) {
      boolean clashes = Modifier.isPrivate(m.getModifiers()) && (" " + FACE).contains(" " + m.getName() + "(");
      Check.due("private " + m.getName() + " bears a public name", clashes ? 1 : 0, 0);
    }
  }

  /** Rules 5 and 11: of all classes in the file. */
  private static void sizes() {
    List<Class<?>> classes = new ArrayList<>(List.of(DreamWindows.class.getDeclaredClasses()));
    classes.add(DreamWindows.class);
    Check.due("classes in the file, 12 at most", Math.max(12, classes.size()), 12);
    for (Class<?> one : classes) {
      int own = 0;
      for (Field f : one.getDeclaredFields()) {
        int is = f.getModifiers();
        own += Modifier.isStatic(is) ? 0 : 1;
        Check.due("static and not final: " + f, Modifier.isStatic(is) && !Modifier.isFinal(is) ? 1 : 0, 0);
      }
      Check.due("fields of " + one + ", 20 at most", Math.max(20, own), 20);
      for (Method m : one.getDeclaredMethods()) {
        Check.due("parameters of " + m + ", 7 at most", Math.max(7, m.getParameterCount()), 7);
      }
    }
  }

  private static String told(Method m) {
    List<String> types = new ArrayList<>();
    for (Class<?> type : m.getParameterTypes()) {
      types.add(type.getName());
    }
    return m.getName() + "(" + String.join(",", types) + ")" + m.getReturnType().getName();
  }

  private static void source() throws Exception {
    String text = Files.readString(Path.of("src/main/java/DreamWindows.java"));
    String code = text.replaceAll("(?s)/\\*.*?\\*/", "").replaceAll("//[^\n]*", "");
    for (String word : FORBIDDEN) {
      Check.due("LANGUAGE.md rules out " + word, Pattern.compile(word).matcher(code).find() ? 1 : 0, 0);
    }
  }
}
