import java.lang.reflect.InvocationTargetException;
import java.lang.reflect.Method;
import java.nio.file.Files;
import java.nio.file.Path;
import java.util.ArrayList;
import java.util.Arrays;
import java.util.Comparator;
import java.util.List;
import java.util.Map;
import java.util.TreeMap;
import java.util.regex.Matcher;
import java.util.regex.Pattern;

/**
 * Runs the tests of boundary cases: methods named promiseN.., each of which quotes what it holds the program to.
 * A quote must stand in its promise or in the terms, and no words of the document that tell a boundary may be left
 * that no test quotes.
 */
final class Edges {
  private static final Path DOCUMENT = Path.of("../shared/DOC.md");
  private static final int PROMISES = 37;
  private static final Class<?>[] TESTS = {
    LawEdges.class, TextEdges.class, SeenEdges.class, BestEdges.class, ToldEdges.class, FliesEdges.class,
    HostEdges.class
  };
  private static final Pattern NAMED = Pattern.compile("promise([0-9]+)[A-Z].*");
  private static final Pattern BOUNDARY = Pattern.compile(
      "\\b(BAD|FULL|STATE|NONE|NO)\\b|-[0-9]|[0-9] \\.\\. |[Aa]t most|too |\\bnone\\b|no such|missing|wrapping|bound\\b"
          + "|no SLEEPERS|modulo");
  // What the terms tell of the answers' names and of kinds of numbers, no case of a call by itself.
  private static final List<String> NO_CASE = List.of(
      "NONE there is no such thing; BAD a number is not as told; STATE as told; FULL.", "CELLS 0 .. 15",
      "PICTURE behind the pane (bits 0 .. 15", "(0 .. 9)", "a .. z");

  // By promise, 0 the terms: what it says, and what of it no test has quoted so far.
  private final Map<Integer, String> whole = new TreeMap<>();
  private final Map<Integer, StringBuilder> left = new TreeMap<>();

  private Edges() throws Exception {
    String document = Files.readString(DOCUMENT).replaceAll("\\s+", " ");
    int at = document.indexOf("## Terms");
    for (int promise = 1; promise <= PROMISES + 1; promise++) {
      int end = document.indexOf(promise <= PROMISES ? "## Promise " + promise + ":" : "## Not promised");
      whole.put(promise - 1, document.substring(at, end));
      left.put(promise - 1, new StringBuilder(whole.get(promise - 1)));
      at = end;
    }
  }

  static void all() throws Exception {
    for (Class<?> tests : TESTS) {
      for (Method test : testsOf(tests)) {
        Check.name(test.getName());
        run(test);
        Check.name("");
      }
    }
    if (Files.exists(DOCUMENT)) {
      new Edges().compare();
    } else {
      System.out.println("no " + DOCUMENT + ": what the tests quote is not compared with it");
    }
  }

  private void compare() {
    for (Class<?> tests : TESTS) {
      for (Method test : testsOf(tests)) {
        take(test);
      }
    }
    look();
  }

  /** What a test throws is an answer that isn't due, too; the other tests still run. */
  private static void run(Method test) throws IllegalAccessException {
    try {
      test.invoke(null);
    } catch (InvocationTargetException e) {
      Check.due("what it throws, " + e.getCause() + ",", 1, 0);
    }
  }

  private static List<Method> testsOf(Class<?> tests) {
    List<Method> found = new ArrayList<>(Arrays.asList(tests.getDeclaredMethods()));
    found.removeIf(m -> !m.isAnnotationPresent(Edge.class) && !NAMED.matcher(m.getName()).matches());
    found.sort(Comparator.comparing(Method::getName));
    return found;
  }

  private void take(Method test) {
    Matcher named = NAMED.matcher(test.getName());
    boolean well = named.matches() && test.isAnnotationPresent(Edge.class);
    Check.due(test.getName() + " is named after a promise and quotes it", well ? 1 : 0, 1);
    if (!well) {
      return;
    }
    int promise = Integer.parseInt(named.group(1));
    for (String quote : test.getAnnotation(Edge.class).value()) {
      boolean own = promise <= PROMISES && whole.get(promise).contains(quote);
      Check.due(test.getName() + " quotes \"" + quote + "\"", own || whole.get(0).contains(quote) ? 1 : 0, 1);
      strike(own ? promise : 0, quote);
    }
  }

  private void strike(int promise, String quote) {
    String says = whole.get(promise);
    for (int at = says.indexOf(quote); at >= 0; at = says.indexOf(quote, at + 1)) {
      left.get(promise).replace(at, at + quote.length(), "#".repeat(quote.length()));
    }
  }

  private void look() {
    for (String words : NO_CASE) {
      strike(0, words);
    }
    for (int promise = 0; promise <= PROMISES; promise++) {
      String rest = left.get(promise).toString().replaceAll("`[^`]*`", "");
      Matcher boundary = BOUNDARY.matcher(rest);
      if (boundary.find()) {
        int from = Math.max(0, boundary.start() - 40);
        String near = rest.substring(from, Math.min(rest.length(), boundary.end() + 40));
        Check.due("no test quotes, of promise " + promise + ": \"" + near + "\"", 1, 0);
      }
    }
  }
}
