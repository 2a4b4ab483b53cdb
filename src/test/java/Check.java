/** Collects the answers that are not as due. */
final class Check {
  private static int asked = 0;
  private static int wrong = 0;

  private Check() {}

  static void due(String what, long got, long want) {
    asked++;
    if (got != want) {
      wrong++;
      System.out.println(what + " answered " + got + ", due is " + want);
    }
  }

  static int wrong() {
    return wrong;
  }

  static int asked() {
    return asked;
  }

  /** Feeds a text, five bytes a call as long as there are so many: how many bytes THE TAPE has. */
  static int feed(DreamWindows x, String text) {
    int size = 0;
    for (int i = 0; i < text.length(); i += 5) {
      int[] five = new int[5];
      int n = Math.min(5, text.length() - i);
      for (int k = 0; k < n; k++) {
        five[k] = text.charAt(i + k);
      }
      size = x.feed(n, five[0], five[1], five[2], five[3], five[4]);
    }
    return size;
  }

  /** Feeds a text and has it read. */
  static int read(DreamWindows x, String text) {
    feed(x, text);
    return x.text();
  }

  /** Has a text read and makes it THE LAW. */
  static void rule(DreamWindows x, String text) {
    int t = read(x, text);
    x.force(t);
    due("THE LAW after " + text, t > 0 ? x.count(4) : -1, t);
  }
}
