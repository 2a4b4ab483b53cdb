import java.util.Arrays;

/**
 * Panes of sleepers, cleaned from the dream side. What each call answers is told by the document,
 * promise by promise; the words in capitals are its terms.
 */
public final class DreamWindows {
  public static final int NONE = -1, BAD = -2, STATE = -3, FULL = -4;
  public static final long NO = -4611686018427387904L;

  private static final int NO_SLEEPER = -5, NO_NUMBER = -7;
  private static final int NOTHING = -11, OUTSIDE = -12, OTHER_SORT = -13, BELOW_ZERO = -14;

  private static final int SLEEPERS = 6, CELLS = 16, SIDE = 4, DULLEST = 99;
  // Sets of CELLS, as bits.
  private static final int ALL_CELLS = 65535, CORNERS = 36873, MIDDLE = 1632;
  private static final int KINDS = 6, MORES = 10, LAST_NIGHT = 999, LAST_MINUTE = 999;
  private static final int NIGHTS_AHEAD = 40, NIGHTS_TOLD = 20;
  private static final int SHEETS = 4, SHEET_SIZE = 40, MISSING = -1, BYTES = 0, SHORTS = 1, INTS = 2;
  private static final int LAST_SEED = 99999, SEEDS = 40, FLIES = 99, FLY = 20;

  private static final int TEXTS = 6, TAPE = 160, BYTE = 255, PARTS = 3, DULLS = 0, LIMIT = 1, COSTS = 2;
  private static final int MOST_DULLS = 50, MOST_ELSE = 99;

  // A TOKEN that is a sign is its own byte, a word is WORD and its place in WORDS.
  private static final String WORDS = "dulls limit costs or and not column row dull night more behind ";
  private static final int END = 0, NUMBER = 1, WRONG = 2, NEGATE = 3, WORD = 256;
  private static final int OR = WORD + 3, AND = WORD + 4, NOT = WORD + 5;
  private static final int COLUMN = WORD + 6, DULL = WORD + 8, NAMES = 6;
  private static final int DIGITS = 4, OPEN = 5;
  // With 5 open no more than 31 numbers wait: or, and, <, +, * leave one each, ahead of each ( .
  private static final int WAITING = 40;

  // Dearer than any WAY: a CELL COSTS 200 at most.
  private static final int FAR = 1000000;

  private final Kind[] everyKind = {
    new Kind(0), new Merchant(1), new Bride(2), new Believer(3), new Child(4), new Manager(5)
  };
  private final Pane[] panes = newPanes(everyKind[0]);
  private final Pane[] thoughts = newPanes(everyKind[0]);
  private final Image kept = new Image(newPanes(everyKind[0]));
  private final Text[] texts = new Text[TEXTS];
  private final Tape tape = new Tape();
  private final Sheet[] sheets = {new Sheet(), new Sheet(), new Sheet(), new Sheet()};
  private final int[] price = new int[CELLS];
  private final int[] least = new int[CELLS];
  private int sleepers = 0;
  private int night = 0;
  private int minutes = 60;
  private int textCount = 1;
  private int law = 0;

  public DreamWindows() {
    Text first = new Text(new int[] {3, 10, -DULL}, new int[] {1, 2, 3});
    for (int t = 0; t < TEXTS; t++) {
      texts[t] = first;
    }
  }

  private static Pane[] newPanes(Kind kind) {
    Pane[] made = new Pane[SLEEPERS];
    for (int s = 0; s < SLEEPERS; s++) {
      made[s] = new Pane(kind);
    }
    return made;
  }

  // ---- the law, sleepers

  public int count(int what) {
    switch (what) {
      case 0: return sleepers;
      case 1: return night;
      case 2: return minutes;
      case 3: return textCount;
      case 4: return law;
      case 5: return tape.size;
      default: return BAD;
    }
  }

  public int hours(int n) {
    if (!within(n, LAST_MINUTE)) {
      return BAD;
    }
    int was = minutes;
    minutes = n;
    return was;
  }

  public int feed(int n, int a, int b, int c, int d, int e) {
    boolean bytes = within(a, BYTE) && within(b, BYTE) && within(c, BYTE) && within(d, BYTE) && within(e, BYTE);
    if (n < 1 || n > 5 || !bytes) {
      return BAD;
    }
    if (tape.size + n > TAPE) {
      return FULL;
    }
    tape.add(a);
    if (n > 1) {
      tape.add(b);
    }
    if (n > 2) {
      tape.add(c);
    }
    if (n > 3) {
      tape.add(d);
    }
    if (n > 4) {
      tape.add(e);
    }
    return tape.size;
  }

  public int text() {
    if (textCount >= TEXTS) {
      return FULL;
    }
    boolean whole = tape.readWhole();
    tape.size = 0;
    if (!whole) {
      return -100 - tape.start;
    }
    texts[textCount] = tape.written();
    textCount++;
    return textCount - 1;
  }

  public int force(int t) {
    if (!within(t, textCount - 1)) {
      return BAD;
    }
    int was = law;
    law = t;
    return was;
  }

  public int asks(int part, int s, int cell) {
    if (!within(part, PARTS - 1) || !isSleeper(s) || !isCell(cell)) {
      return BAD;
    }
    return panes[s].said(texts[law], part, cell, night);
  }

  public int sleeper(int kindMore, int picture, int dullness) {
    if (!within(kindMore, KINDS * MORES - 1) || !within(picture, ALL_CELLS) || !within(dullness, DULLEST)) {
      return BAD;
    }
    if (sleepers >= SLEEPERS) {
      return FULL;
    }
    Pane pane = panes[sleepers];
    pane.kind = everyKind[kindMore / MORES];
    pane.more = kindMore % MORES;
    pane.picture = picture;
    pane.dullAll(dullness);
    sleepers++;
    return sleepers - 1;
  }

  public int put(int s, int what, int v) {
    if (!isSleeper(s)) {
      return NO_SLEEPER;
    }
    if (!within(what, CELLS) || !within(v, what == CELLS ? ALL_CELLS : DULLEST)) {
      return NO_NUMBER;
    }
    Pane pane = panes[s];
    int was;
    if (what == CELLS) {
      was = pane.picture;
      pane.picture = v;
    } else {
      was = pane.dull[what];
      pane.dull[what] = v;
    }
    return was;
  }

  public int told(int s, int what) {
    if (!isSleeper(s)) {
      return NO_SLEEPER;
    }
    if (isCell(what)) {
      return panes[s].dull[what];
    }
    switch (what) {
      case 16: return panes[s].picture;
      case 17: return panes[s].kind.number;
      case 18: return panes[s].more;
      case 19: return panes[s].dullTogether();
      default: return NO_NUMBER;
    }
  }

  // ---- what is seen, nights

  public int view(int s, int what) {
    if (!isSleeper(s)) {
      return NO_SLEEPER;
    }
    Pane pane = panes[s];
    switch (what) {
      case 0: return pane.clearCells(texts[law], night);
      case 1: return pane.seenCells(texts[law], night);
      case 2: return Integer.bitCount(pane.seenCells(texts[law], night));
      case 3: return pane.costOf(texts[law], ALL_CELLS, night);
      default: return NO_NUMBER;
    }
  }

  public int all(int what) {
    if (!within(what, 2)) {
      return BAD;
    }
    int byAny = 0;
    int byEach = sleepers == 0 ? 0 : ALL_CELLS;
    int together = 0;
    for (int s = 0; s < sleepers; s++) {
      int seen = panes[s].seenCells(texts[law], night);
      byAny |= seen;
      byEach &= seen;
      together += Integer.bitCount(seen);
    }
    if (what == 0) {
      return byAny;
    }
    return what == 1 ? byEach : together;
  }

  public int sleep() {
    if (night >= LAST_NIGHT) {
      return STATE;
    }
    for (int s = 0; s < sleepers; s++) {
      panes[s].passNight(texts[law], night);
    }
    night++;
    return night;
  }

  public int clean(int s, int c) {
    if (!isSleeper(s)) {
      return NO_SLEEPER;
    }
    if (!isCell(c)) {
      return NO_NUMBER;
    }
    int cost = panes[s].cost(texts[law], c, night);
    if (cost > minutes) {
      return STATE;
    }
    panes[s].dull[c] = 0;
    return cost;
  }

  public int run(int s, int n, int what) {
    if (!isSleeper(s)) {
      return NO_SLEEPER;
    }
    if (!within(n, NIGHTS_AHEAD) || !within(what, 1)) {
      return NO_NUMBER;
    }
    Pane thought = inThought(s);
    for (int i = 0; i < n; i++) {
      thought.passNight(texts[law], night + i);
    }
    return what == 0 ? thought.seenCells(texts[law], night + n) : thought.dullTogether();
  }

  public int blind(int s) {
    if (!isSleeper(s)) {
      return NO_SLEEPER;
    }
    Pane thought = inThought(s);
    for (int i = 0; i <= NIGHTS_AHEAD; i++) {
      if (thought.seenCells(texts[law], night + i) == 0) {
        return i;
      }
      thought.passNight(texts[law], night + i);
    }
    return NONE;
  }

  // ---- what is best

  public int best(int s, int what) {
    if (!isSleeper(s)) {
      return NO_SLEEPER;
    }
    if (!within(what, 2)) {
      return NO_NUMBER;
    }
    int cells = worthCleaning(s);
    if (what == 0) {
      return cells;
    }
    return what == 1 ? Integer.bitCount(cells) : panes[s].costOf(texts[law], cells, night);
  }

  public int whom(int what) {
    if (!within(what, 1)) {
      return BAD;
    }
    int who = NONE;
    int most = NONE;
    for (int s = 0; s < sleepers; s++) {
      int many = Integer.bitCount(worthCleaning(s));
      if (many > most) {
        who = s;
        most = many;
      }
    }
    return what == 0 ? who : Math.max(0, most);
  }

  public int show(int s, int picture) {
    if (!isSleeper(s)) {
      return NO_SLEEPER;
    }
    if (!within(picture, ALL_CELLS)) {
      return NO_NUMBER;
    }
    if ((picture & ~panes[s].picture) != 0) {
      return NONE;
    }
    // As no LIMIT is below 0, a CELL that is DULL 0 is CLEAR: cleaning always helps.
    int unseen = picture & ~panes[s].seenCells(texts[law], night);
    return panes[s].costOf(texts[law], unseen, night);
  }

  public int way(int s, int cells) {
    if (!isSleeper(s)) {
      return NO_SLEEPER;
    }
    if (cells < 0 || !isCell(cells / 100) || !isCell(cells % 100)) {
      return NO_NUMBER;
    }
    for (int c = 0; c < CELLS; c++) {
      price[c] = panes[s].cost(texts[law], c, night);
      least[c] = FAR;
    }
    least[cells / 100] = price[cells / 100];
    // No best WAY has more than 16 CELLS, so by so many rounds each has come through.
    for (int round = 0; round < CELLS; round++) {
      for (int c = 0; c < CELLS; c++) {
        least[c] = Math.min(least[c], leastBeside(c) + price[c]);
      }
    }
    return least[cells % 100];
  }

  public int often(int s) {
    if (!isSleeper(s)) {
      return NO_SLEEPER;
    }
    for (int n = 9; n >= 1; n--) {
      if (isOftenEnough(s, n)) {
        return n;
      }
    }
    return NONE;
  }

  public int joins(int twoSleepers, int what) {
    int one = twoSleepers / 10;
    int other = twoSleepers % 10;
    if (!isSleeper(one) || !isSleeper(other) || one == other) {
      return NO_SLEEPER;
    }
    if (!within(what, 1)) {
      return NO_NUMBER;
    }
    int oneClear = panes[one].clearCells(texts[law], night);
    int otherClear = panes[other].clearCells(texts[law], night);
    int moves = 0;
    int first = NONE;
    for (int x = -3; x <= 3; x++) {
      for (int y = -3; y <= 3; y++) {
        if (!isTorn(panes[one], oneClear, panes[other], otherClear, x, y)) {
          moves++;
          first = first == NONE ? 10 * (x + 3) + y + 3 : first;
        }
      }
    }
    return what == 0 ? moves : first;
  }

  // ---- told mornings

  public int judge(int q, int s) {
    int refusal = refusalOf(q, s);
    if (refusal != 0) {
      return refusal;
    }
    return firstOtherwise(sheets[q], inThought(s), texts[law]);
  }

  public int kinds(int q, int s, int sort) {
    int refusal = refusalOf(q, s);
    if (refusal != 0) {
      return refusal;
    }
    if (!within(sort, 1)) {
      return NO_NUMBER;
    }
    int found = 0;
    int choices = sort == 0 ? KINDS : MORES;
    for (int i = 0; i < choices; i++) {
      Pane thought = inThought(s);
      if (sort == 0) {
        thought.kind = everyKind[i];
      } else {
        thought.more = i;
      }
      if (firstOtherwise(sheets[q], thought, texts[law]) == NONE) {
        found |= 1 << i;
      }
    }
    return found;
  }

  public int dims(int q, int s, int cellWhat) {
    int refusal = refusalOf(q, s);
    if (refusal != 0) {
      return refusal;
    }
    if (cellWhat < 0 || !isCell(cellWhat / 10) || !within(cellWhat % 10, 1)) {
      return NO_NUMBER;
    }
    int cell = cellWhat / 10;
    int many = 0;
    int first = NONE;
    if (isRightElsewhere(sheets[q], s, cell)) {
      Pane thought = inThought(s);
      for (int dull = 0; dull <= DULLEST; dull++) {
        thought.dull[cell] = dull;
        if (isRightAt(sheets[q], thought, cell)) {
          many++;
          first = first == NONE ? dull : first;
        }
      }
    }
    return cellWhat % 10 == 0 ? many : first;
  }

  public int laws(int q, int s) {
    int refusal = refusalOf(q, s);
    if (refusal != 0) {
      return refusal;
    }
    int found = 0;
    for (int t = 0; t < textCount; t++) {
      if (firstOtherwise(sheets[q], inThought(s), texts[t]) == NONE) {
        found |= 1 << t;
      }
    }
    return found;
  }

  public int guess(int q, int s, int what) {
    int refusal = refusalOf(q, s);
    if (refusal != 0) {
      return refusal;
    }
    if (!within(what, 1)) {
      return NO_NUMBER;
    }
    if (what == 0) {
      return sheets[q].anyBits() & ALL_CELLS;
    }
    int clear = 0;
    Pane thought = inThought(s);
    for (int i = 0; i < sheets[q].size; i++) {
      clear |= thought.clearCells(texts[law], night + i);
      thought.passNight(texts[law], night + i);
    }
    return ALL_CELLS & ~clear;
  }

  public int film(int q, int s, int n) {
    if (!isSheet(q)) {
      return BAD;
    }
    if (!isSleeper(s)) {
      return NO_SLEEPER;
    }
    if (!within(n, NIGHTS_TOLD)) {
      return NO_NUMBER;
    }
    Pane thought = inThought(s);
    sheets[q].become(INTS, n);
    for (int i = 0; i < n; i++) {
      sheets[q].write(i, thought.seenCells(texts[law], night + i));
      thought.passNight(texts[law], night + i);
    }
    return n;
  }

  // ---- flies by lots

  public int drawn(int seed, int flies) {
    if (!within(seed, LAST_SEED) || !within(flies, FLIES)) {
      return BAD;
    }
    return seenBehindFlies(seed, flies);
  }

  public long odds(int seed, int seeds, int flies, int many, int part) {
    boolean lots = within(seed, LAST_SEED) && seeds >= 1 && seeds <= SEEDS && within(flies, FLIES);
    if (!lots || !within(many, SLEEPERS * CELLS) || !within(part, 1)) {
      return NO;
    }
    int good = 0;
    for (int i = 0; i < seeds; i++) {
      if (seenBehindFlies(seed + i, flies) >= many) {
        good++;
      }
    }
    int whole = part == 0 ? good : seeds;
    for (int d = seeds; d > 1; d--) {
      if (good % d == 0 && seeds % d == 0) {
        return whole / d;
      }
    }
    return whole;
  }

  public int image() {
    for (int s = 0; s < sleepers; s++) {
      kept.panes[s].takeAfter(panes[s]);
    }
    kept.sleepers = sleepers;
    kept.night = night;
    kept.minutes = minutes;
    kept.law = law;
    return sleepers;
  }

  public int back() {
    if (kept.sleepers == NONE) {
      return STATE;
    }
    for (int s = 0; s < kept.sleepers; s++) {
      panes[s].takeAfter(kept.panes[s]);
    }
    sleepers = kept.sleepers;
    night = kept.night;
    minutes = kept.minutes;
    law = kept.law;
    return sleepers;
  }

  // ---- the host

  public int sheet(int s, int sort, int n) {
    boolean missing = sort == MISSING;
    if (!isSheet(s) || (!missing && (!within(sort, INTS) || n > SHEET_SIZE))) {
      return BAD;
    }
    if (!missing && n < 0) {
      return BELOW_ZERO;
    }
    sheets[s].become(sort, missing ? 0 : n);
    return 1;
  }

  public int cell(int s, int i, int v) {
    if (!isSheet(s)) {
      return BAD;
    }
    if (sheets[s].sort == MISSING) {
      return NOTHING;
    }
    if (!within(i, sheets[s].size - 1)) {
      return OUTSIDE;
    }
    sheets[s].write(i, v);
    return 1;
  }

  public int copy(int s, int i, int other, int j, int n) {
    if (!isSheet(s) || !isSheet(other)) {
      return BAD;
    }
    Sheet from = sheets[s];
    Sheet to = sheets[other];
    if (from.sort == MISSING || to.sort == MISSING) {
      return NOTHING;
    }
    if (from.sort != to.sort) {
      return OTHER_SORT;
    }
    if (!from.holds(i, n) || !to.holds(j, n)) {
      return OUTSIDE;
    }
    System.arraycopy(from.numbers, i, to.numbers, j, n);
    return n;
  }

  public int sleepersBy(int s, int sort, int from, int n) {
    if (!isSheet(s) || !within(sort, INTS) || !within(n, SLEEPERS)) {
      return BAD;
    }
    Sheet sheet = sheets[s];
    if (sheet.sort == MISSING) {
      return NOTHING;
    }
    if (sheet.sort != sort) {
      return OTHER_SORT;
    }
    int came = 0;
    for (int k = 0; k < n; k++) {
      int at = from + 3 * k;
      if (!sheet.holds(at, 3)) {
        return OUTSIDE;
      }
      if (sleeper(sheet.numbers[at], sheet.numbers[at + 1], sheet.numbers[at + 2]) >= 0) {
        came++;
      }
    }
    return came;
  }

  public int taken(int i, int kind) {
    if (!within(kind, KINDS)) {
      return BAD;
    }
    if (!within(i, 2 * SLEEPERS - 1)) {
      return OUTSIDE;
    }
    if (!isSleeper(i % SLEEPERS)) {
      return NOTHING;
    }
    if (i >= SLEEPERS) {
      return kind == KINDS ? panes[i - SLEEPERS].picture : OTHER_SORT;
    }
    return isOfKind(panes[i].kind, kind) ? i : OTHER_SORT;
  }

  // ---- what several calls share

  private static boolean within(int n, int last) {
    return n >= 0 && n <= last;
  }

  private static boolean has(int bits, int i) {
    return (bits >> i & 1) == 1;
  }

  private static boolean isCell(int c) {
    return within(c, CELLS - 1);
  }

  private static boolean isSheet(int q) {
    return within(q, SHEETS - 1);
  }

  private boolean isSleeper(int s) {
    return within(s, sleepers - 1);
  }

  private static boolean isOfKind(Kind one, int kind) {
    switch (kind) {
      case 0: return true;
      case 1: return one instanceof Merchant;
      case 2: return one instanceof Bride;
      case 3: return one instanceof Believer;
      case 4: return one instanceof Child;
      case 5: return one instanceof Manager;
      default: return false;
    }
  }

  /** A copy of the SLEEPER's pane, to be changed freely. */
  private Pane inThought(int s) {
    thoughts[s].takeAfter(panes[s]);
    return thoughts[s];
  }

  /** The CELLS that best() finds. As no LIMIT is below 0, each CELL that is not SEEN would be, cleaned. */
  private int worthCleaning(int s) {
    int left = panes[s].picture & ~panes[s].seenCells(texts[law], night);
    for (int c = 0; c < CELLS; c++) {
      price[c] = panes[s].cost(texts[law], c, night);
    }
    int chosen = 0;
    int spent = 0;
    for (int i = 0; i < CELLS && left != 0; i++) {
      int next = cheapest(left);
      if (spent + price[next] > minutes) {
        return chosen;
      }
      spent += price[next];
      chosen |= 1 << next;
      left &= ~(1 << next);
    }
    return chosen;
  }

  private int cheapest(int cells) {
    int found = 0;
    int asked = FAR;
    for (int c = 0; c < CELLS; c++) {
      if (has(cells, c) && price[c] < asked) {
        found = c;
        asked = price[c];
      }
    }
    return found;
  }

  private int leastBeside(int c) {
    int found = FAR;
    if (c % SIDE > 0) {
      found = Math.min(found, least[c - 1]);
    }
    if (c % SIDE < SIDE - 1) {
      found = Math.min(found, least[c + 1]);
    }
    if (c / SIDE > 0) {
      found = Math.min(found, least[c - SIDE]);
    }
    if (c / SIDE < SIDE - 1) {
      found = Math.min(found, least[c + SIDE]);
    }
    return found;
  }

  private boolean isOftenEnough(int s, int n) {
    Pane thought = inThought(s);
    int sinceCleaned = n;
    for (int i = 0; i < NIGHTS_TOLD; i++) {
      if (sinceCleaned == n) {
        thought.dullAll(0);
        sinceCleaned = 0;
      }
      thought.passNight(texts[law], night + i);
      sinceCleaned++;
      if (thought.seenCells(texts[law], night + i + 1) != thought.picture) {
        return false;
      }
    }
    return true;
  }

  /** Whether two CLEAR CELLS are unlike, where the other one's lie x, y further on the one's. */
  private static boolean isTorn(Pane one, int oneClear, Pane other, int otherClear, int x, int y) {
    for (int c = 0; c < CELLS; c++) {
      int column = c % SIDE + x;
      int row = c / SIDE + y;
      int under = SIDE * row + column;
      boolean meets = within(column, SIDE - 1) && within(row, SIDE - 1);
      if (meets && has(otherClear, c) && has(oneClear, under)
          && has(other.picture, c) != has(one.picture, under)) {
        return true;
      }
    }
    return false;
  }

  /** What the calls on told mornings refuse alike; 0: nothing. */
  private int refusalOf(int q, int s) {
    if (!isSheet(q)) {
      return BAD;
    }
    if (sheets[q].sort == MISSING) {
      return NOTHING;
    }
    if (sheets[q].size > NIGHTS_TOLD) {
      return BAD;
    }
    return isSleeper(s) ? 0 : NO_SLEEPER;
  }

  private int firstOtherwise(Sheet sheet, Pane thought, Text text) {
    for (int i = 0; i < sheet.size; i++) {
      if (thought.seenCells(text, night + i) != sheet.numbers[i]) {
        return i;
      }
      thought.passNight(text, night + i);
    }
    return NONE;
  }

  /** Whether the SHEET is right of all CELLS but one: they don't change with it, so dims() asks once. */
  private boolean isRightElsewhere(Sheet sheet, int s, int cell) {
    if ((sheet.anyBits() & ~ALL_CELLS) != 0) {
      return false;
    }
    Pane thought = inThought(s);
    for (int c = 0; c < CELLS; c++) {
      if (c != cell && !isRightAt(sheet, thought, c)) {
        return false;
      }
    }
    return true;
  }

  private boolean isRightAt(Sheet sheet, Pane thought, int cell) {
    for (int i = 0; i < sheet.size; i++) {
      boolean seen = has(thought.picture, cell) && thought.isClear(texts[law], cell, night + i);
      if (seen != has(sheet.numbers[i], cell)) {
        return false;
      }
      thought.passNightAt(texts[law], cell, night + i);
    }
    return true;
  }

  private int seenBehindFlies(int seed, int flies) {
    if (sleepers == 0) {
      return 0;
    }
    for (int s = 0; s < sleepers; s++) {
      thoughts[s].takeAfter(panes[s]);
    }
    long lot = seed + 1L;
    for (int i = 0; i < flies; i++) {
      lot = lot * 48271 % 2147483647;
      int place = (int) (lot % (CELLS * sleepers));
      thoughts[place / CELLS].dullMore(place % CELLS, FLY);
    }
    int seen = 0;
    for (int s = 0; s < sleepers; s++) {
      seen += Integer.bitCount(thoughts[s].seenCells(texts[law], night));
    }
    return seen;
  }

  // ---- the kinds; each overrides what is otherwise than of the kind above it

  private static class Kind {
    final int number;

    Kind(int number) {
      this.number = number;
    }

    int dullerBy(int said, int cell, int more, int night) {
      return said;
    }

    int limitBy(int said, int cell, int more) {
      return said;
    }

    int costBy(int said, int cell) {
      return said + 1;
    }
  }

  private static class Merchant extends Kind {
    Merchant(int number) {
      super(number);
    }

    int dullerBy(int said, int cell, int more, int night) {
      return has(CORNERS, cell) ? 2 * said : said;
    }
  }

  private static class Bride extends Kind {
    Bride(int number) {
      super(number);
    }

    int limitBy(int said, int cell, int more) {
      return said + more;
    }

    int costBy(int said, int cell) {
      int plain = super.costBy(said, cell);
      return has(MIDDLE, cell) ? 2 * plain : plain;
    }
  }

  private static final class Believer extends Merchant {
    Believer(int number) {
      super(number);
    }

    int dullerBy(int said, int cell, int more, int night) {
      return super.dullerBy(said, cell, more, night) + more;
    }

    int limitBy(int said, int cell, int more) {
      return has(CORNERS, cell) ? DULLEST : said;
    }
  }

  private static final class Child extends Bride {
    Child(int number) {
      super(number);
    }

    int dullerBy(int said, int cell, int more, int night) {
      return 0;
    }

    int costBy(int said, int cell) {
      return super.costBy(said, cell) / 2;
    }
  }

  private static final class Manager extends Kind {
    Manager(int number) {
      super(number);
    }

    int dullerBy(int said, int cell, int more, int night) {
      return night % 2 == 1 ? said + more : 1;
    }

    int costBy(int said, int cell) {
      return said < 5 ? 5 : super.costBy(said, cell);
    }
  }

  /** A SLEEPER with the pane, as it is or in thought: by which TEXT and in which NIGHT is always told. */
  private static final class Pane {
    Kind kind;
    int more = 0;
    int picture = 0;
    final int[] dull = new int[CELLS];
    private final int[] named = new int[NAMES];

    Pane(Kind kind) {
      this.kind = kind;
    }

    void takeAfter(Pane other) {
      kind = other.kind;
      more = other.more;
      picture = other.picture;
      System.arraycopy(other.dull, 0, dull, 0, CELLS);
    }

    int said(Text text, int part, int cell, int night) {
      named[0] = cell % SIDE;
      named[1] = cell / SIDE;
      named[2] = dull[cell];
      named[3] = night;
      named[4] = more;
      named[5] = picture >> cell & 1;
      int most = part == DULLS ? MOST_DULLS : MOST_ELSE;
      return Math.max(0, Math.min(most, text.worth(part, named)));
    }

    int cost(Text text, int cell, int night) {
      return kind.costBy(said(text, COSTS, cell, night), cell);
    }

    int costOf(Text text, int cells, int night) {
      int together = 0;
      for (int c = 0; c < CELLS; c++) {
        if (has(cells, c)) {
          together += cost(text, c, night);
        }
      }
      return together;
    }

    boolean isClear(Text text, int cell, int night) {
      return dull[cell] <= kind.limitBy(said(text, LIMIT, cell, night), cell, more);
    }

    int clearCells(Text text, int night) {
      int clear = 0;
      for (int c = 0; c < CELLS; c++) {
        if (isClear(text, c, night)) {
          clear |= 1 << c;
        }
      }
      return clear;
    }

    int seenCells(Text text, int night) {
      return clearCells(text, night) & picture;
    }

    void passNightAt(Text text, int cell, int night) {
      dullMore(cell, kind.dullerBy(said(text, DULLS, cell, night), cell, more, night));
    }

    void passNight(Text text, int night) {
      for (int c = 0; c < CELLS; c++) {
        passNightAt(text, c, night);
      }
    }

    void dullMore(int cell, int by) {
      dull[cell] = Math.min(DULLEST, dull[cell] + by);
    }

    void dullAll(int to) {
      for (int c = 0; c < CELLS; c++) {
        dull[c] = to;
      }
    }

    int dullTogether() {
      int together = 0;
      for (int c = 0; c < CELLS; c++) {
        together += dull[c];
      }
      return together;
    }
  }

  /**
   * A TEXT that has been read: its three parts behind one another in a row of codes, numbers ahead of what
   * joins them. A code of 0 or more is a number, one below is less a TOKEN.
   */
  private static final class Text {
    private final int[] codes;
    private final int[] ends;
    private final int[] waiting = new int[WAITING];

    Text(int[] codes, int[] ends) {
      this.codes = codes;
      this.ends = ends;
    }

    int worth(int part, int[] named) {
      int top = 0;
      for (int i = part == 0 ? 0 : ends[part - 1]; i < ends[part]; i++) {
        int code = codes[i];
        boolean isName = within(-code - COLUMN, NAMES - 1);
        if ((code >= 0 || isName) && top < WAITING) {
          waiting[top] = isName ? named[-code - COLUMN] : code;
          top++;
        } else if (code == -NOT && top >= 1) {
          waiting[top - 1] = waiting[top - 1] == 0 ? 1 : 0;
        } else if (code == -NEGATE && top >= 1) {
          waiting[top - 1] = -waiting[top - 1];
        } else if (top >= 2) {
          top--;
          waiting[top - 1] = joined(-code, waiting[top - 1], waiting[top]);
        }
      }
      return waiting[0];
    }

    private static int joined(int token, int left, int right) {
      switch (token) {
        case OR: return left != 0 || right != 0 ? 1 : 0;
        case AND: return left != 0 && right != 0 ? 1 : 0;
        case '<': return left < right ? 1 : 0;
        case '=': return left == right ? 1 : 0;
        case '+': return left + right;
        case '-': return left - right;
        default: return left * right;
      }
    }
  }

  /**
   * THE TAPE, and its reading, TOKEN by TOKEN. What reads answers whether it could; where it could not, the
   * TOKEN stays as it is, so its start is the FAULT. Each reading ends ahead of the first TOKEN that is not
   * its own. How many of ( , not and - are open goes along.
   */
  private static final class Tape {
    int size = 0;
    int start = 0;
    private final int[] bytes = new int[TAPE];
    private final int[] codes = new int[TAPE];
    private final int[] ends = new int[PARTS];
    private int codeCount = 0;
    private int next = 0;
    private int token = END;
    private int number = 0;

    void add(int one) {
      if (size < TAPE) {
        bytes[size] = one;
        size++;
      }
    }

    boolean readWhole() {
      codeCount = 0;
      next = 0;
      step();
      for (int part = 0; part < PARTS; part++) {
        if (!readPart(part)) {
          return false;
        }
      }
      return token == END;
    }

    Text written() {
      return new Text(Arrays.copyOf(codes, codeCount), ends.clone());
    }

    private boolean readPart(int part) {
      if (token != WORD + part) {
        return false;
      }
      step();
      if (!readEither(0) || token != ';') {
        return false;
      }
      ends[part] = codeCount;
      step();
      return true;
    }

    private boolean readEither(int open) {
      boolean well = readBoth(open);
      for (int i = 0; i < TAPE && well && token == OR; i++) {
        step();
        well = readBoth(open);
        write(-OR);
      }
      return well;
    }

    private boolean readBoth(int open) {
      boolean well = readNot(open);
      for (int i = 0; i < TAPE && well && token == AND; i++) {
        step();
        well = readNot(open);
        write(-AND);
      }
      return well;
    }

    private boolean readNot(int open) {
      if (token == NOT) {
        if (open >= OPEN) {
          return false;
        }
        step();
        boolean well = readNot(open + 1);
        write(-NOT);
        return well;
      }
      boolean well = readSum(open);
      if (well && (token == '<' || token == '=')) {
        int sign = token;
        step();
        well = readSum(open);
        write(-sign);
      }
      return well;
    }

    private boolean readSum(int open) {
      boolean well = readTerm(open);
      for (int i = 0; i < TAPE && well && (token == '+' || token == '-'); i++) {
        int sign = token;
        step();
        well = readTerm(open);
        write(-sign);
      }
      return well;
    }

    private boolean readTerm(int open) {
      boolean well = readOne(open);
      for (int i = 0; i < TAPE && well && token == '*'; i++) {
        step();
        well = readOne(open);
        write(-'*');
      }
      return well;
    }

    private boolean readOne(int open) {
      if (token == NUMBER || token >= COLUMN) {
        write(token == NUMBER ? number : -token);
        step();
        return true;
      }
      if (open >= OPEN) {
        return false;
      }
      if (token == '-') {
        step();
        boolean well = readOne(open + 1);
        write(-NEGATE);
        return well;
      }
      if (token != '(') {
        return false;
      }
      step();
      if (!readEither(open + 1) || token != ')') {
        return false;
      }
      step();
      return true;
    }

    private void write(int code) {
      if (codeCount < TAPE) {
        codes[codeCount] = code;
        codeCount++;
      }
    }

    private void step() {
      while (next < size && (bytes[next] == ' ' || bytes[next] == '\n')) {
        next++;
      }
      start = next;
      if (next >= size) {
        token = END;
      } else if (isLetter(bytes[next])) {
        stepWord();
      } else if (isDigit(bytes[next])) {
        stepNumber();
      } else {
        token = isSign(bytes[next]) ? bytes[next] : WRONG;
        next++;
      }
    }

    private void stepWord() {
      while (next < size && isLetter(bytes[next])) {
        next++;
      }
      token = WRONG;
      int word = WORD;
      int first = 0;
      for (int i = 0; i < WORDS.length(); i++) {
        if (WORDS.charAt(i) == ' ') {
          if (i - first == next - start && isWordFrom(first)) {
            token = word;
          }
          word++;
          first = i + 1;
        }
      }
    }

    /** Whether the letters of the TOKEN stand in WORDS from there on, where as many stand. */
    private boolean isWordFrom(int first) {
      for (int i = start; i < next; i++) {
        if (bytes[i] != WORDS.charAt(first + i - start)) {
          return false;
        }
      }
      return true;
    }

    private void stepNumber() {
      number = 0;
      while (next < size && isDigit(bytes[next])) {
        number = next - start < DIGITS ? 10 * number + bytes[next] - '0' : number;
        next++;
      }
      token = next - start > DIGITS ? WRONG : NUMBER;
    }

    private static boolean isLetter(int one) {
      return one >= 'a' && one <= 'z';
    }

    private static boolean isDigit(int one) {
      return one >= '0' && one <= '9';
    }

    private static boolean isSign(int one) {
      return one == '(' || one == ')' || one == ';' || one == '+' || one == '-' || one == '*' || one == '<'
          || one == '=';
    }
  }

  private static final class Sheet {
    int sort = MISSING;
    int size = 0;
    final int[] numbers = new int[SHEET_SIZE];

    void become(int newSort, int newSize) {
      sort = newSort;
      size = newSize;
      Arrays.fill(numbers, 0);
    }

    /** As the host keeps them: of a byte, a short the highest bit is the sign. */
    void write(int i, int v) {
      if (sort == BYTES) {
        numbers[i] = (byte) v;
      } else if (sort == SHORTS) {
        numbers[i] = (short) v;
      } else {
        numbers[i] = v;
      }
    }

    boolean holds(int from, int n) {
      return from >= 0 && n >= 0 && from <= size && n <= size - from;
    }

    int anyBits() {
      int any = 0;
      for (int i = 0; i < size; i++) {
        any |= numbers[i];
      }
      return any;
    }
  }

  /** Once kept, how many SLEEPERS is no longer NONE. */
  private static final class Image {
    int sleepers = NONE;
    int night = 0;
    int minutes = 0;
    int law = 0;
    final Pane[] panes;

    Image(Pane[] panes) {
      this.panes = panes;
    }
  }
}
