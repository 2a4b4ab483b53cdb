import java.util.function.IntUnaryOperator;

/** Boundary cases of promises 17 to 22: what is best. */
final class BestEdges {
  private BestEdges() {}

  /** One SLEEPER by a text. */
  private static DreamWindows one(int kindMore, int picture, int dullness, String text) {
    DreamWindows x = Check.by(text);
    x.sleeper(kindMore, picture, dullness);
    return x;
  }

  /** A call of a SLEEPER that isn't there, of none and of two. */
  private static void noSuchSleeper(IntUnaryOperator[] call, DreamWindows x) {
    for (IntUnaryOperator each : call) {
      Check.due("nobody is there", each.applyAsInt(0), -5);
    }
    x.sleeper(0, 1, 5);
    x.sleeper(0, 2, 6);
    for (IntUnaryOperator each : call) {
      for (int s : Check.outside(0, 1)) {
        Check.due("sleeper " + s, each.applyAsInt(s), -5);
      }
      Check.due("the last one is there", each.applyAsInt(1) == -5 ? 1 : 0, 0);
    }
  }

  private static void best(DreamWindows x, int s, int cells, int many, int cost) {
    Check.due("cells", x.best(s, 0), cells);
    Check.due("how many", x.best(s, 1), many);
    Check.due("what they COST", x.best(s, 2), cost);
  }

  // ---- 17

  @Edge("the most that COST no more than MINUTES, together;")
  static void promise17AsManyMinutesAsTheyCost() {
    DreamWindows x = new DreamWindows();
    x.sleeper(0, 0x0007, 19);
    x.hours(60);
    best(x, 0, 0x0007, 3, 60);
    x.hours(59);
    best(x, 0, 0x0003, 2, 40);
    x.hours(40);
    best(x, 0, 0x0003, 2, 40);
    x.hours(39);
    best(x, 0, 0x0001, 1, 20);
    x.hours(20);
    best(x, 0, 0x0001, 1, 20);
    x.hours(19);
    best(x, 0, 0, 0, 0);
  }

  @Edge("the most that COST no more than MINUTES, together;")
  static void promise17NoMinutes() {
    DreamWindows x = one(0, 65535, 1, "dulls 0;limit 0;costs 0;");
    x.sleeper(40, 65535, 1);
    x.hours(0);
    best(x, 0, 0, 0, 0);
    best(x, 1, 0xffff & ~0x0660, 12, 0);
    x.hours(1);
    best(x, 0, 1, 1, 1);
    best(x, 1, 0xffff & ~0x0660 | 1 << 5, 13, 1);
  }

  @Edge("Of CELLS of the PICTURE that aren't SEEN, but would be, were they DULL 0:")
  static void promise17NothingToBeFound() {
    DreamWindows x = new DreamWindows();
    x.sleeper(0, 0, 99);
    x.sleeper(0, 65535, 10);
    x.sleeper(0, 0x8000, 11);
    x.hours(999);
    best(x, 0, 0, 0, 0);
    best(x, 1, 0, 0, 0);
    best(x, 2, 0x8000, 1, 12);
  }

  @Edge("Of CELLS of the PICTURE that aren't SEEN, but would be, were they DULL 0:")
  static void promise17AllSixteen() {
    DreamWindows x = one(0, 65535, 99, "dulls 0;limit 0;costs 61;");
    x.hours(999);
    best(x, 0, 65535, 16, 992);
    x.hours(991);
    best(x, 0, 0x7fff, 15, 930);
  }

  @Edge("were they DULL 0:")
  static void promise17ALimitBelow0IsTheBoundSoDull0IsSeen() {
    DreamWindows x = one(0, 0x0003, 1, "dulls 0;limit 0-dull;costs 0;");
    x.put(0, 1, 0);
    best(x, 0, 0x0001, 1, 1);
  }

  @Edge("the cheapest first, of like ones the least (what 0; bits),")
  static void promise17OfLikeOnesTheLeast() {
    DreamWindows x = one(0, 65535, 50, "dulls 0;limit 0;costs 9-3*(row=2);");
    x.hours(14);
    best(x, 0, 0x0300, 2, 14);
    x.hours(27);
    best(x, 0, 0x0700, 3, 21);
    x.hours(38);
    best(x, 0, 0x0f01, 5, 38);
    x.hours(37);
    best(x, 0, 0x0f00, 4, 28);
  }

  @Edge("the cheapest first, of like ones the least (what 0; bits),")
  static void promise17TheCheapestThoughItIsTheLast() {
    DreamWindows x = one(0, 65535, 30, "dulls 0;limit 10;costs dull;");
    x.put(0, 15, 29);
    x.hours(30);
    best(x, 0, 0x8000, 1, 30);
    x.hours(61);
    best(x, 0, 0x8001, 2, 61);
    x.hours(60);
    best(x, 0, 0x8000, 1, 30);
  }

  @Edge("-5: no such SLEEPER;")
  static void promise17NoSuchSleeper() {
    DreamWindows x = new DreamWindows();
    noSuchSleeper(new IntUnaryOperator[] {s -> x.best(s, 0), s -> x.best(s, 1), s -> x.best(s, 2)}, x);
  }

  @Edge("-7: what.")
  static void promise17NoSuchWhat() {
    DreamWindows x = new DreamWindows();
    x.sleeper(0, 1, 50);
    for (int what : Check.outside(0, 2)) {
      Check.due("what " + what, x.best(0, what), -7);
    }
  }

  @Edge("-5: no such SLEEPER; -7: what.")
  static void promise17NoSuchSleeperAheadOfWhat() {
    Check.due("both", new DreamWindows().best(0, 3), -5);
  }

  @Edge("What is asked changes nothing, but where it is told.")
  static void promise17InThoughtOnly() {
    DreamWindows x = new DreamWindows();
    x.sleeper(0, 65535, 12);
    Check.unchanged(x, () -> {
      best(x, 0, 0x000f, 4, 52);
      x.whom(0);
      x.whom(1);
    });
  }

  // ---- 18

  @Edge("(what 0; -1: no SLEEPERS), how many (1; 0).")
  static void promise18NoSleepers() {
    DreamWindows x = new DreamWindows();
    Check.due("whose", x.whom(0), -1);
    Check.due("how many", x.whom(1), 0);
  }

  @Edge("Of whose CELLS most are found so, of like ones the first")
  static void promise18NoneFoundIsTheFirst() {
    DreamWindows x = new DreamWindows();
    for (int s = 0; s < 3; s++) {
      x.sleeper(0, 65535, 0);
      Check.due("whose of " + (s + 1), x.whom(0), 0);
      Check.due("how many of " + (s + 1), x.whom(1), 0);
    }
  }

  @Edge("Of whose CELLS most are found so, of like ones the first")
  static void promise18OfLikeOnesTheFirst() {
    DreamWindows x = new DreamWindows();
    x.sleeper(0, 0x0001, 11);
    x.sleeper(0, 0x0003, 11);
    x.sleeper(0, 0xc000, 11);
    Check.due("whose", x.whom(0), 1);
    Check.due("how many", x.whom(1), 2);
    x.put(2, 16, 0xe000);
    Check.due("one more", x.whom(0), 2);
    Check.due("three", x.whom(1), 3);
  }

  @Edge("Of whose CELLS most are found so, of like ones the first")
  static void promise18TheLastOfSixAndAllSixteen() {
    DreamWindows x = Check.by("dulls 0;limit 0;costs 0;");
    for (int s = 0; s < 6; s++) {
      x.sleeper(0, s == 5 ? 65535 : 0x7fff, 1);
    }
    Check.due("whose", x.whom(0), 5);
    Check.due("how many", x.whom(1), 16);
    x.hours(15);
    Check.due("by 15 MINUTES whose", x.whom(0), 0);
    Check.due("by 15 MINUTES how many", x.whom(1), 15);
    x.hours(0);
    Check.due("by none whose", x.whom(0), 0);
    Check.due("by none how many", x.whom(1), 0);
  }

  @Edge("BAD.")
  static void promise18BadWhat() {
    DreamWindows x = new DreamWindows();
    for (int sleepers = 0; sleepers < 2; sleepers++) {
      for (int what : Check.outside(0, 1)) {
        Check.due("what " + what + " of " + sleepers, x.whom(what), -2);
      }
      x.sleeper(0, 1, 50);
    }
  }

  // ---- 19

  @Edge("What it COSTS at least till one SEES all of some CELLS (bits; those of them that aren't SEEN are cleaned);")
  static void promise19NoCellsAndAllCells() {
    DreamWindows x = one(20, 65535, 11, "dulls 0;limit 10;costs 99;");
    Check.due("none", x.show(0, 0), 0);
    Check.due("all", x.show(0, 65535), 1200 + 800);
    x.put(0, 16, 0);
    Check.due("none of none", x.show(0, 0), 0);
  }

  @Edge("What it COSTS at least till one SEES all of some CELLS (bits; those of them that aren't SEEN are cleaned);")
  static void promise19WhatIsSeenCostsNothing() {
    DreamWindows x = new DreamWindows();
    x.sleeper(0, 65535, 10);
    Check.due("as dull as its limit", x.show(0, 65535), 0);
    x.put(0, 15, 11);
    Check.due("one too dull", x.show(0, 65535), 12);
    Check.due("without it", x.show(0, 0x7fff), 0);
  }

  @Edge("What it COSTS at least till one SEES all of some CELLS (bits; those of them that aren't SEEN are cleaned);")
  static void promise19MinutesDoNotMatter() {
    DreamWindows x = new DreamWindows();
    x.sleeper(0, 1, 99);
    x.hours(0);
    Check.due("100", x.show(0, 1), 100);
  }

  @Edge("-1: they aren't all of the PICTURE,")
  static void promise19OneIsNotOfThePicture() {
    DreamWindows x = new DreamWindows();
    x.sleeper(0, 0x7ffe, 0);
    Check.due("cell 0", x.show(0, 0x0001), -1);
    Check.due("cell 15", x.show(0, 0x8000), -1);
    Check.due("cell 0 of all", x.show(0, 0x7fff), -1);
    Check.due("cell 15 of all", x.show(0, 0xfffe), -1);
    Check.due("neither", x.show(0, 0x7ffe), 0);
  }

  @Edge("or one of them wouldn't be SEEN, were it DULL 0.")
  static void promise19ALimitBelow0IsTheBoundSoDull0IsSeen() {
    DreamWindows x = one(0, 0x0003, 1, "dulls 0;limit 0-99;costs 4;");
    x.put(0, 1, 0);
    Check.due("one is cleaned", x.show(0, 0x0003), 5);
  }

  @Edge("-5: no such SLEEPER;")
  static void promise19NoSuchSleeper() {
    DreamWindows x = new DreamWindows();
    noSuchSleeper(new IntUnaryOperator[] {s -> x.show(s, 0), s -> x.show(s, 1)}, x);
  }

  @Edge("-7: picture.")
  static void promise19NoSuchPicture() {
    DreamWindows x = new DreamWindows();
    x.sleeper(0, 65535, 5);
    for (int picture : Check.outside(0, 65535)) {
      Check.due("picture " + picture, x.show(0, picture), -7);
    }
    x.put(0, 16, 0);
    Check.due("ahead of -1", x.show(0, 65536), -7);
  }

  @Edge("-5: no such SLEEPER; -7: picture.")
  static void promise19NoSuchSleeperAheadOfPicture() {
    Check.due("both", new DreamWindows().show(0, -1), -5);
  }

  // ---- 20

  @Edge("(cells: 100 times the one, and the other; one and the same: that alone).")
  static void promise20OneAndTheSame() {
    DreamWindows x = new DreamWindows();
    x.sleeper(0, 0, 99);
    for (int c = 0; c < 16; c++) {
      x.put(0, c, c + 3);
    }
    for (int c = 0; c < 16; c++) {
      Check.due("that alone, " + c, x.way(0, 101 * c), c + 4);
    }
  }

  @Edge("with what all of them COST, both ends, too.")
  static void promise20BothEndsCost() {
    DreamWindows x = new DreamWindows();
    x.sleeper(0, 0, 0);
    x.put(0, 5, 20);
    x.put(0, 6, 40);
    Check.due("two", x.way(0, 506), 21 + 41);
    Check.due("and back", x.way(0, 605), 21 + 41);
    Check.due("only one", x.way(0, 105), 1 + 21);
    Check.due("back from one", x.way(0, 501), 1 + 21);
  }

  @Edge("CELLS each of which is beside the one ahead (above, below, left, right),")
  static void promise20ARowsEndIsNotBesideTheNextOnesBegin() {
    DreamWindows x = one(0, 0, 0, "dulls 0;limit 0;costs 0;");
    for (int row = 0; row < 3; row++) {
      int end = 4 * row + 3;
      Check.due("from " + end, x.way(0, 100 * end + end + 1), 5);
      Check.due("to " + end, x.way(0, 100 * (end + 1) + end), 5);
    }
    Check.due("not from 0 to 12 at once", x.way(0, 12), 4);
    Check.due("not from 0 to 3 at once", x.way(0, 3), 4);
    Check.due("not from 15 to 0 at once", x.way(0, 1500), 7);
    Check.due("not slanting", x.way(0, 5), 3);
  }

  @Edge("CELLS each of which is beside the one ahead (above, below, left, right),")
  static void promise20FromEachCellToEachBesideIt() {
    DreamWindows x = one(0, 0, 0, "dulls 0;limit 0;costs 0;");
    for (int from = 0; from < 16; from++) {
      for (int to = 0; to < 16; to++) {
        int far = Math.abs(from % 4 - to % 4) + Math.abs(from / 4 - to / 4);
        Check.due("from " + from + " to " + to, x.way(0, 100 * from + to), 1 + far);
      }
    }
  }

  @Edge("The least that a WAY COSTS from a CELL to another one")
  static void promise20TheLongestWayAndTheDearest() {
    DreamWindows x = new DreamWindows();
    x.sleeper(0, 0, 99);
    for (int c : new int[] {0, 1, 2, 3, 7, 8, 11, 12, 13, 14, 15}) {
      x.put(0, c, 0);
    }
    // From 0 to 8 through 4, or around the rim by 11 CELLS of 1 each.
    x.put(0, 4, 9);
    Check.due("around", x.way(0, 8), 11);
    Check.due("and back", x.way(0, 800), 11);
    x.put(0, 4, 7);
    Check.due("through", x.way(0, 8), 10);
    DreamWindows y = one(20, 0, 0, "dulls 0;limit 0;costs 99;");
    Check.due("dearest", y.way(0, 15), 700);
    Check.due("through the MIDDLE", y.way(0, 509), 400);
    DreamWindows z = one(40, 0, 0, "dulls 0;limit 0;costs 0;");
    Check.due("for nothing", z.way(0, 15), 0);
  }

  @Edge("-7: cells.")
  static void promise20NoSuchCells() {
    DreamWindows x = new DreamWindows();
    x.sleeper(0, 0, 5);
    for (int cells : new int[] {16, 99, 1516, 1599, 1600, 1615, 9999, -1, -16, -99, -100, -101, -1515}) {
      Check.due("cells " + cells, x.way(0, cells), -7);
    }
    Check.due("cells far above", x.way(0, Integer.MAX_VALUE), -7);
    Check.due("cells far below", x.way(0, Integer.MIN_VALUE), -7);
    Check.due("0 are", x.way(0, 0), 6);
    Check.due("15 are", x.way(0, 15), 42);
    Check.due("1500 are", x.way(0, 1500), 42);
    Check.due("1515 are", x.way(0, 1515), 6);
  }

  @Edge("-5: no such SLEEPER;")
  static void promise20NoSuchSleeper() {
    DreamWindows x = new DreamWindows();
    noSuchSleeper(new IntUnaryOperator[] {s -> x.way(s, 0), s -> x.way(s, 1500)}, x);
  }

  @Edge("-5: no such SLEEPER; -7: cells.")
  static void promise20NoSuchSleeperAheadOfCells() {
    Check.due("both", new DreamWindows().way(0, 1600), -5);
  }

  // ---- 21

  private static int often(String text) {
    return one(0, 65535, 99, text).often(0);
  }

  @Edge("The most n (1 .. 9) such that,")
  static void promise21NineAtMost() {
    Check.due("by 9", often("dulls 1;limit 9;costs 0;"), 9);
    Check.due("by 8", often("dulls 1;limit 8;costs 0;"), 8);
    Check.due("by 20", often("dulls 1;limit 20;costs 0;"), 9);
    Check.due("never duller", often("dulls 0;limit 0;costs 0;"), 9);
  }

  @Edge({"The most n (1 .. 9) such that,", "-1: none."})
  static void promise21OneAndNone() {
    Check.due("by 1", often("dulls 1;limit 1;costs 0;"), 1);
    Check.due("by none", often("dulls 1;limit 0;costs 0;"), -1);
    Check.due("by 50", often("dulls 50;limit 50;costs 0;"), 1);
    Check.due("by 49", often("dulls 50;limit 49;costs 0;"), -1);
    // What is 1 DULL isn't CLEAR, so only cleaning no more than once would do.
    Check.due("by none but never", often("dulls 1+(night=0);limit 99*(1<dull);costs 0;"), -1);
  }

  @Edge("were all one's CELLS cleaned ahead of NIGHT 0, n, 2 n, .. of 20 NIGHTS from now on,")
  static void promise21CleanedAheadOfTheFirst() {
    DreamWindows x = one(0, 65535, 99, "dulls 0;limit 0;costs 0;");
    Check.due("all", x.often(0), 9);
    x.sleeper(0, 0x8000, 99);
    Check.due("the last cell", x.often(1), 9);
  }

  @Edge("were all one's CELLS cleaned ahead of NIGHT 0, n, 2 n, .. of 20 NIGHTS from now on,")
  static void promise21CleanedAheadOfEachNth() {
    // Two nights beside one another dull: only what is cleaned between them fits.
    Check.due("between 8 and 9", often("dulls (night=8)+(night=9);limit 1;costs 0;"), 9);
    Check.due("between 17 and 18", often("dulls (night=17)+(night=18);limit 1;costs 0;"), 9);
    Check.due("between 7 and 8", often("dulls (night=7)+(night=8);limit 1;costs 0;"), 8);
    Check.due("between 15 and 16", often("dulls (night=15)+(night=16);limit 1;costs 0;"), 8);
    Check.due("between 18 and 19", often("dulls (night=18)+(night=19);limit 1;costs 0;"), 1);
    Check.due("between 12 and 13", often("dulls (night=12)+(night=13);limit 1;costs 0;"), 1);
    Check.due("between 13 and 14", often("dulls (night=13)+(night=14);limit 1;costs 0;"), 7);
  }

  @Edge("of 20 NIGHTS from now on, all of the PICTURE would be SEEN behind each of them;")
  static void promise21TheTwentiethNightAndNotTheNext() {
    Check.due("the 20th dulls", often("dulls night=19;limit 0;costs 0;"), -1);
    Check.due("the 21st does", often("dulls night=20;limit 0;costs 0;"), 9);
    Check.due("the limit behind the 20th", often("dulls 1;limit 20-20*(night=20);costs 0;"), -1);
    Check.due("behind the 21st", often("dulls 1;limit 20-20*(night=21);costs 0;"), 9);
    Check.due("the limit behind the first", often("dulls 1;limit 20-20*(night=1);costs 0;"), -1);
    Check.due("ahead of the first", often("dulls 1;limit 20-20*(night=0);costs 0;"), 9);
  }

  @Edge("of 20 NIGHTS from now on, all of the PICTURE would be SEEN behind each of them;")
  static void promise21FromTheNightNow() {
    DreamWindows x = one(0, 65535, 99, "dulls night=21;limit 0;costs 0;");
    Check.due("of NIGHT 0", x.often(0), 9);
    x.sleep();
    Check.due("of NIGHT 1", x.often(0), 9);
    x.sleep();
    Check.due("of NIGHT 2", x.often(0), -1);
  }

  @Edge("all of the PICTURE would be SEEN behind each of them;")
  static void promise21NoPictureAndOneCell() {
    DreamWindows x = one(0, 0, 99, "dulls 50*(column=0);limit 0;costs 0;");
    Check.due("nothing", x.often(0), 9);
    x.put(0, 16, 0xeeee);
    Check.due("all but a column", x.often(0), 9);
    x.put(0, 16, 0xffee);
    Check.due("and one of it", x.often(0), -1);
    x.put(0, 16, 1 << 12);
    Check.due("only one of it", x.often(0), -1);
  }

  @Edge("What is asked changes nothing, but where it is told.")
  static void promise21InThoughtOnly() {
    DreamWindows x = new DreamWindows();
    x.sleeper(50, 65535, 5);
    x.sleeper(0, 3, 50);
    Check.unchanged(x, () -> {
      x.often(0);
      x.way(0, 15);
      x.show(0, 65535);
      x.joins(1, 0);
      x.joins(10, 1);
    });
  }

  @Edge("-5: no such SLEEPER.")
  static void promise21NoSuchSleeper() {
    DreamWindows x = new DreamWindows();
    noSuchSleeper(new IntUnaryOperator[] {s -> x.often(s)}, x);
  }

  // ---- 22

  private static DreamWindows two(int one, int other) {
    DreamWindows x = new DreamWindows();
    x.sleeper(0, one, 10);
    x.sleeper(0, other, 10);
    return x;
  }

  private static void joined(String what, DreamWindows x, int moves, int first) {
    Check.due(what + ": how many", x.joins(1, 0), moves);
    Check.due(what + ": the first", x.joins(1, 1), first);
  }

  @Edge({"MOVES of x, y (-3 .. 3 each):", "x first, then y, -3 first (1; 10 times x and 3, and y and 3;"})
  static void promise22FromMinus3To3() {
    joined("only up and left", two(65535, 1 << 15), 1, 0);
    joined("only down and left", two(65535, 1 << 3), 1, 6);
    joined("only up and right", two(65535, 1 << 12), 1, 60);
    joined("only down and right", two(65535, 1), 1, 66);
  }

  @Edge("x first, then y, -3 first (1; 10 times x and 3, and y and 3;")
  static void promise22TheFirstByXThenByY() {
    joined("x -3 and y 3, ahead of x 3 and y -3", two(65535, 1 << 3 | 1 << 12), 2, 6);
    joined("y -3 ahead of y 3", two(65535, 1 << 3 | 1 << 15), 2, 0);
    joined("x -1, by any y", two(0x1111, 0x2222), 14, 20);
    joined("y -1, by any x", two(0x000f, 0x00f0), 14, 2);
  }

  @Edge("By how many MOVES no two CELLS that lie so, both CLEAR, are unlike")
  static void promise22AllMoves() {
    joined("everywhere", two(65535, 65535), 49, 0);
    joined("nowhere", two(0, 0), 49, 0);
  }

  @Edge("-1: none).")
  static void promise22NoMove() {
    joined("everything on nothing", two(65535, 0), 0, -1);
    joined("nothing on everything", two(0, 65535), 0, -1);
  }

  @Edge("both CLEAR, are unlike (something behind the one, nothing behind the other)")
  static void promise22WhatIsNotClearDoesNotCount() {
    DreamWindows x = two(65535, 0);
    x.put(0, 0, 11);
    joined("the one's first", x, 1, 0);
    x.put(0, 0, 10);
    x.put(1, 0, 11);
    joined("the other's first", x, 1, 66);
    for (int c = 0; c < 16; c++) {
      x.put(1, c, 11);
    }
    joined("none of the other's", x, 49, 0);
    x.put(1, 6, 10);
    for (int c = 0; c < 16; c++) {
      x.put(0, c, 11);
    }
    joined("none of the one's", x, 49, 0);
    x.put(0, 9, 10);
    joined("one of each", x, 48, 0);
    x.put(0, 9, 11);
    x.put(0, 3, 10);
    x.put(1, 6, 11);
    x.put(1, 12, 10);
    joined("one of each, by x 3 and y -3", x, 48, 0);
    x.put(0, 3, 11);
    x.put(0, 0, 10);
    x.put(1, 12, 11);
    x.put(1, 15, 10);
    joined("one of each, by x -3 and y -3", x, 48, 1);
  }

  @Edge("twoSleepers: 10 times the one, and the other.")
  static void promise22TheFirstAndTheLastOfSix() {
    DreamWindows x = new DreamWindows();
    for (int s = 0; s < 6; s++) {
      x.sleeper(0, s == 5 ? 65535 : s == 0 ? 1 : 0, 0);
    }
    Check.due("5 on 0", x.joins(5, 1), 0);
    Check.due("0 on 5", x.joins(50, 1), 66);
    Check.due("4 on 5", x.joins(54, 1), -1);
    Check.due("5 on 4", x.joins(45, 0), 0);
    Check.due("4 on 3", x.joins(34, 0), 49);
  }

  @Edge("-5: no such two, one and the same;")
  static void promise22NoSuchTwo() {
    DreamWindows x = new DreamWindows();
    Check.due("nobody", x.joins(1, 0), -5);
    x.sleeper(0, 0, 0);
    Check.due("only one", x.joins(1, 0), -5);
    Check.due("only one, the other", x.joins(10, 0), -5);
    x.sleeper(0, 0, 0);
    for (int twoSleepers : new int[] {2, 20, 9, 90, 12, 21, 100, 110, 101, 99, -1, -10, -11, -9}) {
      Check.due("two " + twoSleepers, x.joins(twoSleepers, 0), -5);
    }
    Check.due("far above", x.joins(Integer.MAX_VALUE, 0), -5);
    Check.due("far below", x.joins(Integer.MIN_VALUE, 0), -5);
    Check.due("these are", x.joins(1, 0), 49);
    Check.due("and these", x.joins(10, 0), 49);
  }

  @Edge("-5: no such two, one and the same;")
  static void promise22OneAndTheSame() {
    DreamWindows x = new DreamWindows();
    for (int s = 0; s < 6; s++) {
      x.sleeper(0, 0, 0);
    }
    for (int s = 0; s < 6; s++) {
      Check.due("both " + s, x.joins(11 * s, 0), -5);
    }
    Check.due("neither is there", x.joins(66, 0), -5);
  }

  @Edge("-7: what.")
  static void promise22NoSuchWhat() {
    DreamWindows x = two(0, 0);
    for (int what : Check.outside(0, 1)) {
      Check.due("what " + what, x.joins(1, what), -7);
    }
  }

  @Edge("-5: no such two, one and the same; -7: what.")
  static void promise22NoSuchTwoAheadOfWhat() {
    DreamWindows x = two(0, 0);
    Check.due("no such two", x.joins(2, 2), -5);
    Check.due("one and the same", x.joins(11, -1), -5);
  }
}
