import java.util.ArrayDeque;
import java.util.ArrayList;
import java.util.Arrays;
import java.util.Deque;
import java.util.List;

/**
 * The document once more, written apart from the program and otherwise: as few shortcuts as can be, all ways
 * tried, the host's own arrays for SHEETS. What both answer alike over long runs is likely no slip.
 */
final class Model {
  private static final class Fault extends RuntimeException {
    private static final long serialVersionUID = 1L;
    final int place;

    Fault(int place) {
      super("fault", null, false, false);
      this.place = place;
    }
  }

  private interface Eval {
    int of(int[] names);
  }

  private record Token(String is, int start) {}

  private static final class Reader {
    final List<Token> tokens = new ArrayList<>();
    final Deque<String> open = new ArrayDeque<>();
    int at = 0;

    Reader(int[] bytes) {
      int i = 0;
      while (i < bytes.length) {
        int c = bytes[i];
        int start = i;
        StringBuilder is = new StringBuilder();
        if (c == 32 || c == 10) {
          i++;
          continue;
        } else if (c >= 97 && c <= 122) {
          while (i < bytes.length && bytes[i] >= 97 && bytes[i] <= 122) {
            is.append((char) bytes[i++]);
          }
        } else if (c >= 48 && c <= 57) {
          while (i < bytes.length && bytes[i] >= 48 && bytes[i] <= 57) {
            is.append((char) bytes[i++]);
          }
        } else {
          is.append((char) c);
          i++;
        }
        tokens.add(new Token(is.toString(), start));
      }
      tokens.add(new Token("", bytes.length));
    }

    String now() {
      return tokens.get(at).is();
    }

    Fault fault() {
      return new Fault(tokens.get(at).start());
    }

    boolean take(String... any) {
      if (Arrays.asList(any).contains(now())) {
        at++;
        return true;
      }
      return false;
    }

    void need(String one) {
      if (!take(one)) {
        throw fault();
      }
    }

    void begin(String what) {
      if (open.size() == 5) {
        throw fault();
      }
      open.push(what);
      at++;
    }

    Eval[] whole() {
      Eval[] parts = new Eval[3];
      String[] keys = {"dulls", "limit", "costs"};
      for (int i = 0; i < 3; i++) {
        need(keys[i]);
        parts[i] = either();
        need(";");
      }
      if (!now().isEmpty()) {
        throw fault();
      }
      return parts;
    }

    Eval either() {
      List<Eval> all = new ArrayList<>(List.of(both()));
      while (take("or")) {
        all.add(both());
      }
      return all.size() == 1 ? all.get(0) : n -> all.stream().anyMatch(e -> e.of(n) != 0) ? 1 : 0;
    }

    Eval both() {
      List<Eval> all = new ArrayList<>(List.of(not()));
      while (take("and")) {
        all.add(not());
      }
      return all.size() == 1 ? all.get(0) : n -> all.stream().allMatch(e -> e.of(n) != 0) ? 1 : 0;
    }

    Eval not() {
      if (now().equals("not")) {
        begin("not");
        Eval e = not();
        open.pop();
        return n -> e.of(n) == 0 ? 1 : 0;
      }
      Eval left = sum();
      if (take("<")) {
        Eval right = sum();
        return n -> left.of(n) < right.of(n) ? 1 : 0;
      }
      if (take("=")) {
        Eval right = sum();
        return n -> left.of(n) == right.of(n) ? 1 : 0;
      }
      return left;
    }

    Eval sum() {
      Eval e = term();
      while (true) {
        Eval left = e;
        if (take("+")) {
          Eval right = term();
          e = n -> left.of(n) + right.of(n);
        } else if (take("-")) {
          Eval right = term();
          e = n -> left.of(n) - right.of(n);
        } else {
          return e;
        }
      }
    }

    Eval term() {
      Eval e = one();
      while (take("*")) {
        Eval left = e;
        Eval right = one();
        e = n -> left.of(n) * right.of(n);
      }
      return e;
    }

    Eval one() {
      String is = now();
      if (is.matches("[0-9]{1,4}")) {
        at++;
        return n -> Integer.parseInt(is);
      }
      int name = List.of("column", "row", "dull", "night", "more", "behind").indexOf(is);
      if (name >= 0) {
        at++;
        return n -> n[name];
      }
      if (is.equals("-")) {
        begin("-");
        Eval e = one();
        open.pop();
        return n -> -e.of(n);
      }
      if (is.equals("(")) {
        begin("(");
        Eval e = either();
        need(")");
        open.pop();
        return e;
      }
      throw fault();
    }
  }

  private static final class One {
    int kind;
    int more;
    int picture;
    int[] dull = new int[16];

    One copy() {
      One c = new One();
      c.kind = kind;
      c.more = more;
      c.picture = picture;
      c.dull = dull.clone();
      return c;
    }
  }

  private List<One> all = new ArrayList<>();
  private final List<Eval[]> texts = new ArrayList<>();
  private final List<Integer> tape = new ArrayList<>();
  private final Object[] sheets = new Object[4];
  private int night = 0;
  private int minutes = 60;
  private int law = 0;
  private List<One> keptAll = null;
  private int[] keptRest = null;

  Model() {
    texts.add(new Eval[] {n -> 3, n -> 10, n -> n[2]});
  }

  // ---- rules

  private int says(Eval[] text, int part, One one, int cell, int atNight) {
    int v = text[part].of(new int[] {
      cell % 4, cell / 4, one.dull[cell], atNight, one.more, (one.picture & (1 << cell)) != 0 ? 1 : 0
    });
    int most = part == 0 ? 50 : 99;
    return v < 0 ? 0 : v > most ? most : v;
  }

  private static boolean corner(int c) {
    return c == 0 || c == 3 || c == 12 || c == 15;
  }

  private static boolean middle(int c) {
    return c == 5 || c == 6 || c == 9 || c == 10;
  }

  private int duller(Eval[] text, One one, int c, int atNight) {
    int said = says(text, 0, one, c, atNight);
    return switch (one.kind) {
      case 1 -> corner(c) ? said + said : said;
      case 3 -> (corner(c) ? said + said : said) + one.more;
      case 4 -> 0;
      case 5 -> atNight % 2 != 0 ? said + one.more : 1;
      default -> said;
    };
  }

  private int limit(Eval[] text, One one, int c, int atNight) {
    int said = says(text, 1, one, c, atNight);
    return switch (one.kind) {
      case 2, 4 -> said + one.more;
      case 3 -> corner(c) ? 99 : said;
      default -> said;
    };
  }

  private int cost(Eval[] text, One one, int c, int atNight) {
    int said = says(text, 2, one, c, atNight);
    int bride = middle(c) ? (said + 1) * 2 : said + 1;
    return switch (one.kind) {
      case 2 -> bride;
      case 4 -> bride / 2;
      case 5 -> said < 5 ? 5 : said + 1;
      default -> said + 1;
    };
  }

  private int clear(Eval[] text, One one, int atNight) {
    int bits = 0;
    for (int c = 0; c < 16; c++) {
      bits += one.dull[c] <= limit(text, one, c, atNight) ? 1 << c : 0;
    }
    return bits;
  }

  private int seen(Eval[] text, One one, int atNight) {
    return clear(text, one, atNight) & one.picture;
  }

  private One later(Eval[] text, One from, int nights) {
    One one = from.copy();
    for (int i = 0; i < nights; i++) {
      pass(text, one, night + i);
    }
    return one;
  }

  private void pass(Eval[] text, One one, int atNight) {
    for (int c = 0; c < 16; c++) {
      one.dull[c] = Math.min(99, one.dull[c] + duller(text, one, c, atNight));
    }
  }

  private Eval[] law() {
    return texts.get(law);
  }

  private boolean none(int s) {
    return s < 0 || s >= all.size();
  }

  private static boolean out(int v, int least, int most) {
    return v < least || v > most;
  }

  // ---- the law, sleepers

  int count(int what) {
    int[] all6 = {all.size(), night, minutes, texts.size(), law, tape.size()};
    return out(what, 0, 5) ? -2 : all6[what];
  }

  int hours(int n) {
    if (out(n, 0, 999)) {
      return -2;
    }
    int was = minutes;
    minutes = n;
    return was;
  }

  int feed(int n, int... five) {
    if (out(n, 1, 5) || Arrays.stream(five).anyMatch(b -> out(b, 0, 255))) {
      return -2;
    }
    if (tape.size() + n > 160) {
      return -4;
    }
    for (int i = 0; i < n; i++) {
      tape.add(five[i]);
    }
    return tape.size();
  }

  int text() {
    if (texts.size() == 6) {
      return -4;
    }
    int[] bytes = tape.stream().mapToInt(b -> b).toArray();
    tape.clear();
    try {
      texts.add(new Reader(bytes).whole());
      return texts.size() - 1;
    } catch (Fault f) {
      return -100 - f.place;
    }
  }

  int force(int t) {
    if (out(t, 0, texts.size() - 1)) {
      return -2;
    }
    int was = law;
    law = t;
    return was;
  }

  int asks(int part, int s, int c) {
    return out(part, 0, 2) || none(s) || out(c, 0, 15) ? -2 : says(law(), part, all.get(s), c, night);
  }

  int sleeper(int kindMore, int picture, int dullness) {
    if (out(kindMore, 0, 59) || out(picture, 0, 65535) || out(dullness, 0, 99)) {
      return -2;
    }
    if (all.size() == 6) {
      return -4;
    }
    One one = new One();
    one.kind = kindMore / 10;
    one.more = kindMore % 10;
    one.picture = picture;
    Arrays.fill(one.dull, dullness);
    all.add(one);
    return all.size() - 1;
  }

  int put(int s, int what, int v) {
    if (none(s)) {
      return -5;
    }
    if (out(what, 0, 16) || out(v, 0, what == 16 ? 65535 : 99)) {
      return -7;
    }
    int was = told(s, what);
    if (what == 16) {
      all.get(s).picture = v;
    } else {
      all.get(s).dull[what] = v;
    }
    return was;
  }

  int told(int s, int what) {
    if (none(s)) {
      return -5;
    }
    One one = all.get(s);
    if (!out(what, 0, 15)) {
      return one.dull[what];
    }
    return switch (what) {
      case 16 -> one.picture;
      case 17 -> one.kind;
      case 18 -> one.more;
      case 19 -> Arrays.stream(one.dull).sum();
      default -> -7;
    };
  }

  // ---- what is seen, nights

  int view(int s, int what) {
    if (none(s)) {
      return -5;
    }
    int together = 0;
    for (int c = 0; c < 16; c++) {
      together += cost(law(), all.get(s), c, night);
    }
    int seen = seen(law(), all.get(s), night);
    int[] four = {clear(law(), all.get(s), night), seen, Integer.bitCount(seen), together};
    return out(what, 0, 3) ? -7 : four[what];
  }

  int all(int what) {
    int any = all.stream().map(o -> seen(law(), o, night)).reduce(0, (a, b) -> a | b);
    int each = all.stream().map(o -> seen(law(), o, night)).reduce((a, b) -> a & b).orElse(0);
    int many = all.stream().mapToInt(o -> Integer.bitCount(seen(law(), o, night))).sum();
    return out(what, 0, 2) ? -2 : new int[] {any, each, many}[what];
  }

  int sleep() {
    if (night == 999) {
      return -3;
    }
    for (One one : all) {
      pass(law(), one, night);
    }
    return ++night;
  }

  int clean(int s, int c) {
    if (none(s)) {
      return -5;
    }
    if (out(c, 0, 15)) {
      return -7;
    }
    int cost = cost(law(), all.get(s), c, night);
    if (cost > minutes) {
      return -3;
    }
    all.get(s).dull[c] = 0;
    return cost;
  }

  int run(int s, int n, int what) {
    if (none(s)) {
      return -5;
    }
    if (out(n, 0, 40) || out(what, 0, 1)) {
      return -7;
    }
    One one = later(law(), all.get(s), n);
    return what == 0 ? seen(law(), one, night + n) : Arrays.stream(one.dull).sum();
  }

  int blind(int s) {
    if (none(s)) {
      return -5;
    }
    for (int n = 0; n <= 40; n++) {
      if (run(s, n, 0) == 0) {
        return n;
      }
    }
    return -1;
  }

  // ---- what is best

  /** Bits of the best of all sets of CELLS: more, then cheaper, then the least. */
  private int found(One one) {
    int could = 0;
    for (int c = 0; c < 16; c++) {
      One cleaned = one.copy();
      cleaned.dull[c] = 0;
      boolean now = (seen(law(), one, night) & (1 << c)) != 0;
      could |= !now && (seen(law(), cleaned, night) & (1 << c)) != 0 ? 1 << c : 0;
    }
    int best = 0;
    int[] prices = new int[65536];
    for (int c = 0; c < 16; c++) {
      prices[1 << c] = cost(law(), one, c, night);
    }
    for (int set = 1; set < 65536; set++) {
      int low = Integer.lowestOneBit(set);
      prices[set] = prices[low] + (set == low ? 0 : prices[set - low]);
    }
    for (int set = could; set > 0; set = (set - 1) & could) {
      int price = prices[set];
      int more = Integer.compare(Integer.bitCount(set), Integer.bitCount(best));
      int less = Integer.compare(prices[best], price);
      if (price <= minutes && (more > 0 || more == 0 && (less > 0 || less == 0 && set < best))) {
        best = set;
      }
    }
    return best;
  }

  private int price(One one, int set) {
    int together = 0;
    for (int c = 0; c < 16; c++) {
      together += (set & (1 << c)) != 0 ? cost(law(), one, c, night) : 0;
    }
    return together;
  }

  int best(int s, int what) {
    if (none(s)) {
      return -5;
    }
    if (out(what, 0, 2)) {
      return -7;
    }
    int set = found(all.get(s));
    return new int[] {set, Integer.bitCount(set), price(all.get(s), set)}[what];
  }

  int whom(int what) {
    if (out(what, 0, 1)) {
      return -2;
    }
    int[] many = all.stream().mapToInt(o -> Integer.bitCount(found(o))).toArray();
    int most = Arrays.stream(many).max().orElse(0);
    for (int s = 0; s < many.length; s++) {
      if (many[s] == most) {
        return what == 0 ? s : most;
      }
    }
    return what == 0 ? -1 : 0;
  }

  int show(int s, int picture) {
    if (none(s)) {
      return -5;
    }
    if (out(picture, 0, 65535)) {
      return -7;
    }
    One one = all.get(s);
    int cost = 0;
    for (int c = 0; c < 16; c++) {
      if ((picture & (1 << c)) != 0) {
        One cleaned = one.copy();
        cleaned.dull[c] = 0;
        if ((seen(law(), cleaned, night) & (1 << c)) == 0) {
          return -1;
        }
        cost += (seen(law(), one, night) & (1 << c)) == 0 ? cost(law(), one, c, night) : 0;
      }
    }
    return cost;
  }

  int way(int s, int cells) {
    if (none(s)) {
      return -5;
    }
    if (cells < 0 || cells / 100 > 15 || cells % 100 > 15) {
      return -7;
    }
    long[][] far = new long[16][16];
    for (int a = 0; a < 16; a++) {
      for (int b = 0; b < 16; b++) {
        boolean beside = Math.abs(a % 4 - b % 4) + Math.abs(a / 4 - b / 4) == 1;
        far[a][b] = a == b ? 0 : beside ? cost(law(), all.get(s), b, night) : 1L << 40;
      }
    }
    for (int k = 0; k < 16; k++) {
      for (int a = 0; a < 16; a++) {
        for (int b = 0; b < 16; b++) {
          far[a][b] = Math.min(far[a][b], far[a][k] + far[k][b]);
        }
      }
    }
    return (int) (far[cells / 100][cells % 100] + cost(law(), all.get(s), cells / 100, night));
  }

  int often(int s) {
    if (none(s)) {
      return -5;
    }
    int most = -1;
    for (int n = 1; n <= 9; n++) {
      One one = all.get(s).copy();
      boolean well = true;
      for (int i = 0; i < 20; i++) {
        if (i % n == 0) {
          Arrays.fill(one.dull, 0);
        }
        pass(law(), one, night + i);
        well &= seen(law(), one, night + i + 1) == one.picture;
      }
      most = well ? n : most;
    }
    return most;
  }

  int joins(int two, int what) {
    if (two < 0 || none(two / 10) || none(two % 10) || two / 10 == two % 10) {
      return -5;
    }
    if (out(what, 0, 1)) {
      return -7;
    }
    One one = all.get(two / 10);
    One other = all.get(two % 10);
    List<Integer> good = new ArrayList<>();
    for (int x = -3; x <= 3; x++) {
      for (int y = -3; y <= 3; y++) {
        boolean well = true;
        for (int a = 0; a < 16; a++) {
          for (int b = 0; b < 16; b++) {
            if (b % 4 + x == a % 4 && b / 4 + y == a / 4) {
              boolean clear = (clear(law(), one, night) & (1 << a)) != 0 && (clear(law(), other, night) & (1 << b)) != 0;
              boolean alike = ((one.picture >> a) & 1) == ((other.picture >> b) & 1);
              well &= !clear || alike;
            }
          }
        }
        if (well) {
          good.add(10 * (x + 3) + y + 3);
        }
      }
    }
    return what == 0 ? good.size() : good.isEmpty() ? -1 : good.get(0);
  }

  // ---- told mornings

  private static int size(Object sheet) {
    return java.lang.reflect.Array.getLength(sheet);
  }

  private static int get(Object sheet, int i) {
    return java.lang.reflect.Array.getInt(sheet, i);
  }

  private int refused(int q, int s) {
    if (out(q, 0, 3)) {
      return -2;
    }
    if (sheets[q] == null) {
      return -11;
    }
    return size(sheets[q]) > 20 ? -2 : none(s) ? -5 : 0;
  }

  private int otherwise(int q, One one, Eval[] text) {
    for (int i = 0; i < size(sheets[q]); i++) {
      if (seen(text, later(text, one, i), night + i) != get(sheets[q], i)) {
        return i;
      }
    }
    return -1;
  }

  int judge(int q, int s) {
    return refused(q, s) != 0 ? refused(q, s) : otherwise(q, all.get(s), law());
  }

  int kinds(int q, int s, int sort) {
    if (refused(q, s) != 0) {
      return refused(q, s);
    }
    if (out(sort, 0, 1)) {
      return -7;
    }
    int bits = 0;
    for (int v = 0; v < (sort == 0 ? 6 : 10); v++) {
      One one = all.get(s).copy();
      one.kind = sort == 0 ? v : one.kind;
      one.more = sort == 1 ? v : one.more;
      bits |= otherwise(q, one, law()) == -1 ? 1 << v : 0;
    }
    return bits;
  }

  int dims(int q, int s, int cellWhat) {
    if (refused(q, s) != 0) {
      return refused(q, s);
    }
    if (cellWhat < 0 || cellWhat > 159 || cellWhat % 10 > 1) {
      return -7;
    }
    int many = 0;
    int least = -1;
    for (int d = 99; d >= 0; d--) {
      One one = all.get(s).copy();
      one.dull[cellWhat / 10] = d;
      if (otherwise(q, one, law()) == -1) {
        many++;
        least = d;
      }
    }
    return cellWhat % 10 == 0 ? many : least;
  }

  int laws(int q, int s) {
    if (refused(q, s) != 0) {
      return refused(q, s);
    }
    int bits = 0;
    for (int t = 0; t < texts.size(); t++) {
      bits |= otherwise(q, all.get(s), texts.get(t)) == -1 ? 1 << t : 0;
    }
    return bits;
  }

  int guess(int q, int s, int what) {
    if (refused(q, s) != 0) {
      return refused(q, s);
    }
    if (out(what, 0, 1)) {
      return -7;
    }
    int bits = what == 0 ? 0 : 65535;
    for (int i = 0; i < size(sheets[q]); i++) {
      if (what == 0) {
        bits |= get(sheets[q], i) & 65535;
      } else {
        bits &= ~clear(law(), later(law(), all.get(s), i), night + i);
      }
    }
    return bits;
  }

  int film(int q, int s, int n) {
    if (out(q, 0, 3)) {
      return -2;
    }
    if (none(s)) {
      return -5;
    }
    if (out(n, 0, 20)) {
      return -7;
    }
    int[] told = new int[n];
    for (int i = 0; i < n; i++) {
      told[i] = run(s, i, 0);
    }
    sheets[q] = told;
    return n;
  }

  // ---- flies by lots

  int drawn(int seed, int flies) {
    return out(seed, 0, 99999) || out(flies, 0, 99) ? -2 : flown(seed, flies);
  }

  private int flown(int seed, int flies) {
    List<One> thought = all.stream().map(One::copy).toList();
    java.math.BigInteger lot = java.math.BigInteger.valueOf(seed + 1);
    for (int i = 0; i < flies && !thought.isEmpty(); i++) {
      lot = lot.multiply(java.math.BigInteger.valueOf(48271)).mod(java.math.BigInteger.valueOf(2147483647));
      int at = lot.mod(java.math.BigInteger.valueOf(16L * thought.size())).intValue();
      int[] dull = thought.get(at / 16).dull;
      dull[at % 16] = Math.min(99, dull[at % 16] + 20);
    }
    return thought.stream().mapToInt(o -> Integer.bitCount(seen(law(), o, night))).sum();
  }

  long odds(int seed, int seeds, int flies, int many, int part) {
    if (out(seed, 0, 99999) || out(seeds, 1, 40) || out(flies, 0, 99) || out(many, 0, 96) || out(part, 0, 1)) {
      return -(1L << 62);
    }
    int good = 0;
    for (int i = 0; i < seeds; i++) {
      good += flown(seed + i, flies) >= many ? 1 : 0;
    }
    int common = java.math.BigInteger.valueOf(good).gcd(java.math.BigInteger.valueOf(seeds)).intValue();
    return (part == 0 ? good : seeds) / common;
  }

  int image() {
    keptAll = new ArrayList<>(all.stream().map(One::copy).toList());
    keptRest = new int[] {night, minutes, law};
    return all.size();
  }

  int back() {
    if (keptAll == null) {
      return -3;
    }
    all = new ArrayList<>(keptAll.stream().map(One::copy).toList());
    night = keptRest[0];
    minutes = keptRest[1];
    law = keptRest[2];
    return all.size();
  }

  // ---- the host

  int sheet(int s, int sort, int n) {
    if (out(s, 0, 3) || out(sort, -1, 2) || sort >= 0 && n > 40) {
      return -2;
    }
    if (sort >= 0 && n < 0) {
      return -14;
    }
    sheets[s] = switch (sort) {
      case 0 -> new byte[n];
      case 1 -> new short[n];
      case 2 -> new int[n];
      default -> null;
    };
    return 1;
  }

  int cell(int s, int i, int v) {
    if (out(s, 0, 3)) {
      return -2;
    }
    try {
      if (sheets[s] instanceof byte[] bytes) {
        bytes[i] = (byte) v;
      } else if (sheets[s] instanceof short[] shorts) {
        shorts[i] = (short) v;
      } else {
        ((int[]) sheets[s])[i] = v;
      }
      return 1;
    } catch (NullPointerException e) {
      return -11;
    } catch (ArrayIndexOutOfBoundsException e) {
      return -12;
    }
  }

  @SuppressWarnings("SuspiciousSystemArraycopy")
  int copy(int s, int i, int other, int j, int n) {
    if (out(s, 0, 3) || out(other, 0, 3)) {
      return -2;
    }
    try {
      System.arraycopy(sheets[s], i, sheets[other], j, n);
      return n;
    } catch (NullPointerException e) {
      return -11;
    } catch (ArrayStoreException e) {
      return -13;
    } catch (ArrayIndexOutOfBoundsException e) {
      return -12;
    }
  }

  int sleepersBy(int s, int sort, int from, int n) {
    if (out(s, 0, 3) || out(sort, 0, 2) || out(n, 0, 6)) {
      return -2;
    }
    if (sheets[s] == null) {
      return -11;
    }
    Class<?> due = List.<Class<?>>of(byte[].class, short[].class, int[].class).get(sort);
    if (!due.isInstance(sheets[s])) {
      return -13;
    }
    int came = 0;
    try {
      for (int k = 0; k < n; k++) {
        int a = get(sheets[s], from + 3 * k);
        int b = get(sheets[s], from + 3 * k + 1);
        int c = get(sheets[s], from + 3 * k + 2);
        came += sleeper(a, b, c) >= 0 ? 1 : 0;
      }
      return came;
    } catch (ArrayIndexOutOfBoundsException e) {
      return -12;
    }
  }

  int taken(int i, int kind) {
    if (out(kind, 0, 6)) {
      return -2;
    }
    if (out(i, 0, 11)) {
      return -12;
    }
    if (none(i % 6)) {
      return -11;
    }
    One one = all.get(i % 6);
    if (i > 5) {
      return kind == 6 ? one.picture : -13;
    }
    int[] above = {-1, 0, 0, 1, 2, 0};
    for (int k = one.kind; k >= 0; k = above[k]) {
      if (k == kind) {
        return i;
      }
    }
    return -13;
  }
}
