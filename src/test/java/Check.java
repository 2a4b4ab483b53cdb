import java.util.ArrayList;
import java.util.List;

/** Collects the answers that are not as due. */
final class Check {
  private static String test = "";
  private static int asked = 0;
  private static int wrong = 0;

  private Check() {}

  /** What is asked from now on belongs to this test. */
  static void name(String of) {
    test = of.isEmpty() ? "" : of + ": ";
  }

  static void due(String what, long got, long want) {
    asked++;
    if (got != want) {
      wrong++;
      System.out.println(test + what + " answered " + got + ", due is " + want);
    }
  }

  static int wrong() {
    return wrong;
  }

  static int asked() {
    return asked;
  }

  /** Numbers outside of a range: just so, and as far as can be. */
  static int[] outside(int least, int most) {
    return new int[] {least - 1, most + 1, Integer.MIN_VALUE, Integer.MAX_VALUE};
  }

  /** The two ends of a range. */
  static int[] ends(int least, int most) {
    return new int[] {least, most};
  }

  /** Has calls made that are due to change nothing: all that can be asked for is asked for ahead and behind. */
  static void unchanged(DreamWindows x, Runnable calls) {
    List<Integer> ahead = stateOf(x);
    calls.run();
    due("nothing has changed", stateOf(x).equals(ahead) ? 1 : 0, 1);
  }

  private static List<Integer> stateOf(DreamWindows x) {
    List<Integer> state = new ArrayList<>();
    for (int what = 0; what <= 5; what++) {
      state.add(x.count(what));
    }
    for (int s = 0; s < x.count(0); s++) {
      for (int what = 0; what <= 18; what++) {
        state.add(x.told(s, what));
      }
    }
    return state;
  }

  /** Feeds a text, five bytes a call as long as there are so many: how many bytes THE TAPE has. */
  static int feed(DreamWindows x, String text) {
    int size = 0;
    for (int i = 0; i < text.length(); i += 5) {
      int[] five = new int[5];
      int n = Math.min(5, text.length() - i);
      for (int k = 0; k < n; k++) {
        five[k] = text.charAt(i + k);
      }
      size = x.feed(n, five[0], five[1], five[2], five[3], five[4]);
    }
    return size;
  }

  /** Feeds a text and has it read. */
  static int read(DreamWindows x, String text) {
    feed(x, text);
    return x.text();
  }

  /** Has a text read and makes it THE LAW. */
  static void rule(DreamWindows x, String text) {
    int t = read(x, text);
    x.force(t);
    due("THE LAW after " + text, t > 0 ? x.count(4) : -1, t);
  }

  /** A new object, by a text. */
  static DreamWindows by(String text) {
    DreamWindows x = new DreamWindows();
    rule(x, text);
    return x;
  }

  /** A SHEET of ints that tells these. */
  static void tell(DreamWindows x, int q, int... told) {
    sheet(x, q, 2, told);
  }

  /** A SHEET of a sort with these numbers. */
  static void sheet(DreamWindows x, int q, int sort, int... numbers) {
    x.sheet(q, sort, numbers.length);
    for (int i = 0; i < numbers.length; i++) {
      x.cell(q, i, numbers[i]);
    }
  }

  /** The lowest 16 bits of number i of a SHEET, told by SHEET 3; SLEEPER 0 must be there. */
  static int bits(DreamWindows x, int q, int sort, int i) {
    x.sheet(3, sort, 1);
    x.copy(q, i, 3, 0, 1);
    return x.guess(3, 0, 0);
  }
}
