import java.lang.reflect.Method;
import java.nio.file.Files;
import java.nio.file.Path;
import java.util.regex.Matcher;
import java.util.regex.Pattern;

/** The example in README.md: each call answers what stands behind it there. */
final class ReadmeTests {
  private static final Pattern CALL = Pattern.compile("x\\.(\\w+)\\((.*)\\); *// (-?\\d+)(:.*)?");

  private ReadmeTests() {}

  static void all() throws Exception {
    String text = Files.readString(Path.of("README.md"));
    int from = text.indexOf("```java\n");
    Check.due("README.md has an example", from >= 0 ? 1 : 0, 1);
    if (from < 0) {
      return;
    }
    from += "```java\n".length();
    Check.name("README.md");
    DreamWindows x = new DreamWindows();
    String[] rows = text.substring(from, text.indexOf("```", from)).split("\n");
    Check.due("it begins with a new object", rows[0].equals("DreamWindows x = new DreamWindows();") ? 1 : 0, 1);
    for (int i = 1; i < rows.length; i++) {
      if (!rows[i].isEmpty()) {
        row(x, rows[i]);
      }
    }
    Check.name("");
  }

  private static void row(DreamWindows x, String row) throws ReflectiveOperationException {
    Matcher call = CALL.matcher(row);
    if (!call.matches()) {
      Check.due("a call and its answer, not \"" + row + "\"", 0, 1);
      return;
    }
    Object[] given = numbers(call.group(2));
    Class<?>[] types = new Class<?>[given.length];
    java.util.Arrays.fill(types, int.class);
    Method method = DreamWindows.class.getMethod(call.group(1), types);
    long got = ((Number) method.invoke(x, given)).longValue();
    Check.due(row.substring(0, row.indexOf(';')), got, Long.parseLong(call.group(3)));
  }

  /** Whole numbers and signs in quotes, none of them a comma. */
  private static Object[] numbers(String told) {
    String[] each = told.isEmpty() ? new String[0] : told.split(",");
    Object[] made = new Object[each.length];
    for (int i = 0; i < each.length; i++) {
      String one = each[i].strip();
      boolean isSign = each[i].contains("'");
      made[i] = isSign ? (int) each[i].charAt(each[i].indexOf('\'') + 1) : Integer.parseInt(one);
    }
    return made;
  }
}
