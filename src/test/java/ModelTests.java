import java.util.Arrays;
import java.util.Random;

/** Long runs of calls by lots, always the same ones, on the program and on the model, compared call by call. */
final class ModelTests {
  private static final int RUNS = 300;
  private static final int CALLS = 400;
  private static final String[] CALLED = {
    "count", "hours", "feed", "text", "force", "asks", "sleeper", "put", "told", "view", "all", "sleep", "clean",
    "run", "blind", "best", "whom", "show", "way", "often", "joins", "judge", "kinds", "dims", "laws", "guess",
    "film", "drawn", "odds", "image", "back", "sheet", "cell", "copy", "sleepersBy", "taken", "writes", "telling",
    "nights"
  };

  private final Random lots;
  private final DreamWindows x = new DreamWindows();
  private final Model m = new Model();
  private String called = "";

  private ModelTests(long seed) {
    lots = new Random(seed);
  }

  static void all() {
    for (int r = 0; r < RUNS; r++) {
      ModelTests one = new ModelTests(r);
      for (int i = 0; i < CALLS; i++) {
        String name = CALLED[one.lots.nextInt(CALLED.length)];
        long[] both = one.call(name);
        Check.due("run " + r + " call " + i + " " + name + one.called, both[0], both[1]);
      }
    }
  }

  /** Mostly 0 .. most, now and then just outside, or far off. */
  private int near(int most) {
    int lot = lots.nextInt(40);
    if (lot == 0) {
      return -1 - lots.nextInt(3);
    }
    if (lot == 1) {
      return most + 1 + lots.nextInt(3);
    }
    if (lot == 2) {
      return lots.nextBoolean() ? Integer.MAX_VALUE : Integer.MIN_VALUE;
    }
    return lots.nextInt(most + 1);
  }

  private int[] args(int... mosts) {
    int[] made = Arrays.stream(mosts).map(this::near).toArray();
    called = Arrays.toString(made);
    return made;
  }

  private int picture() {
    int lot = lots.nextInt(8);
    return lot == 0 ? 65535 : lot == 1 ? 0 : near(65535);
  }

  private long[] both(long got, long due) {
    return new long[] {got, due};
  }

  private long[] call(String name) {
    int[] a;
    switch (name) {
      case "count": a = args(5); return both(x.count(a[0]), m.count(a[0]));
      case "hours": a = args(lots.nextBoolean() ? 200 : 999); return both(x.hours(a[0]), m.hours(a[0]));
      case "feed":
        a = args(5, 255, 255, 255, 255, 255);
        return both(x.feed(a[0], a[1], a[2], a[3], a[4], a[5]), m.feed(a[0], a[1], a[2], a[3], a[4], a[5]));
      case "text": a = args(); return both(x.text(), m.text());
      case "force": a = args(5); return both(x.force(a[0]), m.force(a[0]));
      case "asks": a = args(2, 5, 15); return both(x.asks(a[0], a[1], a[2]), m.asks(a[0], a[1], a[2]));
      case "sleeper":
        a = args(59, 65535, 99);
        a[1] = picture();
        return both(x.sleeper(a[0], a[1], a[2]), m.sleeper(a[0], a[1], a[2]));
      case "put":
        a = args(5, 16, 99);
        a[2] = a[1] == 16 ? picture() : a[2];
        return both(x.put(a[0], a[1], a[2]), m.put(a[0], a[1], a[2]));
      case "told": a = args(5, 19); return both(x.told(a[0], a[1]), m.told(a[0], a[1]));
      case "view": a = args(5, 3); return both(x.view(a[0], a[1]), m.view(a[0], a[1]));
      case "all": a = args(2); return both(x.all(a[0]), m.all(a[0]));
      case "sleep": a = args(); return both(x.sleep(), m.sleep());
      case "clean": a = args(5, 15); return both(x.clean(a[0], a[1]), m.clean(a[0], a[1]));
      case "run": a = args(5, 40, 1); return both(x.run(a[0], a[1], a[2]), m.run(a[0], a[1], a[2]));
      case "blind": a = args(5); return both(x.blind(a[0]), m.blind(a[0]));
      default: return further(name);
    }
  }

  private long[] further(String name) {
    int[] a;
    switch (name) {
      case "best":
        a = lots.nextInt(4) == 0 ? args(5, 2) : args(0, 2);
        return both(x.best(a[0], a[1]), m.best(a[0], a[1]));
      case "whom": a = args(1); return lots.nextInt(4) == 0 ? both(x.whom(a[0]), m.whom(a[0])) : both(0, 0);
      case "show": a = new int[] {near(5), partOf()}; return both(x.show(a[0], a[1]), m.show(a[0], a[1]));
      case "way":
        a = args(5, 15, 15);
        a[1] = a[1] < 0 || a[1] > 99 ? a[1] : 100 * a[1] + a[2];
        return both(x.way(a[0], a[1]), m.way(a[0], a[1]));
      case "often": a = args(5); return both(x.often(a[0]), m.often(a[0]));
      case "joins": a = args(5, 5, 1); a[0] = 10 * a[0] + a[1]; return both(x.joins(a[0], a[2]), m.joins(a[0], a[2]));
      case "judge": a = args(3, 5); return both(x.judge(a[0], a[1]), m.judge(a[0], a[1]));
      case "kinds": a = args(3, 5, 1); return both(x.kinds(a[0], a[1], a[2]), m.kinds(a[0], a[1], a[2]));
      case "dims":
        a = args(3, 5, 15, 1);
        a[2] = a[2] < 0 || a[2] > 99 ? a[2] : 10 * a[2] + a[3];
        return both(x.dims(a[0], a[1], a[2]), m.dims(a[0], a[1], a[2]));
      case "laws": a = args(3, 5); return both(x.laws(a[0], a[1]), m.laws(a[0], a[1]));
      case "guess": a = args(3, 5, 1); return both(x.guess(a[0], a[1], a[2]), m.guess(a[0], a[1], a[2]));
      case "film": a = args(3, 5, 20); return both(x.film(a[0], a[1], a[2]), m.film(a[0], a[1], a[2]));
      case "drawn": a = args(99999, 99); return both(x.drawn(a[0], a[1]), m.drawn(a[0], a[1]));
      case "odds": return odds();
      case "image": a = args(); return both(x.image(), m.image());
      case "back": a = args(); return both(x.back(), m.back());
      default: return ofHost(name);
    }
  }

  /** Mostly bits that the PICTURE of SLEEPER 0 has. */
  private int partOf() {
    int has = m.told(0, 16);
    return has < 0 || lots.nextInt(3) == 0 ? picture() : has & lots.nextInt(65536);
  }

  private long[] odds() {
    int[] a = args(99999, 40, 99, 96, 1);
    a[3] = lots.nextInt(3) == 0 ? a[3] : m.drawn(7, 7) + lots.nextInt(5) - 2;
    long got = x.odds(a[0], a[1], a[2], a[3], a[4]);
    return both(got, m.odds(a[0], a[1], a[2], a[3], a[4]));
  }

  private long[] ofHost(String name) {
    int[] a;
    switch (name) {
      case "sheet":
        a = args(3, 2, 40);
        a[1] = lots.nextInt(10) == 0 ? -1 : a[1];
        return both(x.sheet(a[0], a[1], a[2]), m.sheet(a[0], a[1], a[2]));
      case "cell":
        a = args(3, 40, 99);
        a[2] = lots.nextBoolean() ? lots.nextInt() : a[2];
        return both(x.cell(a[0], a[1], a[2]), m.cell(a[0], a[1], a[2]));
      case "copy":
        a = args(3, 30, 3, 30, 20);
        return both(x.copy(a[0], a[1], a[2], a[3], a[4]), m.copy(a[0], a[1], a[2], a[3], a[4]));
      case "sleepersBy":
        a = args(3, 2, 20, 6);
        return both(x.sleepersBy(a[0], a[1], a[2], a[3]), m.sleepersBy(a[0], a[1], a[2], a[3]));
      case "taken": a = args(11, 6); return both(x.taken(a[0], a[1]), m.taken(a[0], a[1]));
      case "writes": return writes();
      case "telling": return telling();
      default: return nights();
    }
  }

  /** A whole text comes, often a spoiled one. */
  private long[] writes() {
    String text = "dulls " + either(0) + ";limit " + either(0) + "; costs" + blank() + either(0) + " ;";
    if (lots.nextInt(3) == 0) {
      text = "dulls " + lots.nextInt(7) + ";limit " + (3 + lots.nextInt(25)) + "; costs dull+" + lots.nextInt(9) + ";";
    }
    StringBuilder bytes = new StringBuilder(text);
    for (int i = lots.nextInt(4); i > 2 && bytes.length() > 0; i--) {
      int at = lots.nextInt(bytes.length());
      String any = "()  ;+-*<=19az\nA@`{/:dulls or and not";
      if (lots.nextBoolean()) {
        bytes.setCharAt(at, any.charAt(lots.nextInt(any.length())));
      } else {
        bytes.delete(at, Math.min(bytes.length(), at + 1 + lots.nextInt(3)));
      }
    }
    if (m.count(5) > 0) {
      x.text();
      m.text();
    }
    bytes.setLength(Math.min(bytes.length(), 160 - m.count(5)));
    Check.feed(x, bytes.toString());
    for (int i = 0; i < bytes.length(); i++) {
      m.feed(1, bytes.charAt(i), 0, 0, 0, 0);
    }
    called = " " + bytes;
    long[] both = both(x.text(), m.text());
    if (both[0] > 0) {
      x.force((int) both[0]);
      m.force((int) both[0]);
    }
    return both;
  }

  private String blank() {
    return lots.nextInt(3) == 0 ? "\n" : " ";
  }

  private String either(int deep) {
    String made = sum(deep);
    int lot = lots.nextInt(12);
    if (lot == 0) {
      return made + " or " + sum(deep);
    }
    if (lot == 1) {
      return made + " and " + sum(deep);
    }
    if (lot == 2) {
      return "not " + either(deep + 1);
    }
    return lot < 6 ? made + "<=".charAt(lots.nextInt(2)) + sum(deep) : made;
  }

  private String sum(int deep) {
    String made = one(deep);
    for (int i = lots.nextInt(3); i > 0; i--) {
      made += "+-*".charAt(lots.nextInt(3)) + one(deep);
    }
    return made;
  }

  private String one(int deep) {
    int lot = lots.nextInt(16);
    if (deep < 7 && lot < 3) {
      return lot == 0 ? "-" + one(deep + 1) : "(" + either(deep + 1) + ")";
    }
    if (lot == 3) {
      return "" + lots.nextInt(12345);
    }
    String[] names = {"column", "row", "dull", "night", "more", "behind"};
    return lot < 9 ? names[lots.nextInt(6)] : "" + lots.nextInt(20);
  }

  /** What a SLEEPER sees is told on a SHEET, at times with one number spoiled. */
  private long[] telling() {
    int q = lots.nextInt(4);
    int s = lots.nextInt(6);
    int n = lots.nextInt(12);
    called = " " + q + " " + s + " " + n;
    long[] both = both(x.film(q, s, n), m.film(q, s, n));
    if (lots.nextInt(4) == 0) {
      int i = lots.nextInt(12);
      int v = lots.nextInt();
      x.cell(q, i, v);
      m.cell(q, i, v);
    }
    return both;
  }

  private long[] nights() {
    int n = lots.nextInt(3);
    long[] both = both(0, 0);
    for (int i = 0; i < n; i++) {
      both = both(x.sleep(), m.sleep());
    }
    called = " " + n;
    return both;
  }
}
