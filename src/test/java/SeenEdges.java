import java.util.function.IntUnaryOperator;

/** Boundary cases of promises 11 to 16: what is seen, nights. */
final class SeenEdges {
  private static final int CORNERS = 1 | 1 << 3 | 1 << 12 | 1 << 15;
  private static final int MIDDLE = 1 << 5 | 1 << 6 | 1 << 9 | 1 << 10;

  private SeenEdges() {}

  /** One SLEEPER with something everywhere, by a text. */
  private static DreamWindows one(int kindMore, int dullness, String text) {
    DreamWindows x = Check.by(text);
    x.sleeper(kindMore, 65535, dullness);
    return x;
  }

  /** A call of a SLEEPER that isn't there, of none and of two. */
  private static void noSuchSleeper(DreamWindows x, IntUnaryOperator call) {
    Check.due("nobody is there", call.applyAsInt(0), -5);
    x.sleeper(0, 1, 5);
    x.sleeper(0, 2, 6);
    Check.unchanged(x, () -> {
      for (int s : Check.outside(0, 1)) {
        Check.due("sleeper " + s, call.applyAsInt(s), -5);
      }
    });
    Check.due("the last one is there", call.applyAsInt(1) == -5 ? 1 : 0, 0);
  }

  private static boolean has(int cells, int c) {
    return (cells >> c & 1) == 1;
  }

  // ---- 11

  @Edge("A CELL is CLEAR, if it is DULL as much as its LIMIT or less.")
  static void promise11AsDullAsItsLimit() {
    DreamWindows x = one(0, 20, "dulls 0;limit 20;costs 0;");
    x.put(0, 0, 21);
    x.put(0, 15, 19);
    Check.due("CLEAR", x.view(0, 0), 0xfffe);
    Check.due("SEEN", x.view(0, 1), 0xfffe);
    Check.due("how many", x.view(0, 2), 15);
  }

  @Edge("A CELL is CLEAR, if it is DULL as much as its LIMIT or less.")
  static void promise11LimitsOf0AndOf99() {
    DreamWindows x = one(0, 0, "dulls 0;limit 99*behind;costs 0;");
    x.put(0, 16, 0x00ff);
    x.put(0, 0, 99);
    x.put(0, 8, 1);
    Check.due("CLEAR", x.view(0, 0), 0xffff & ~(1 << 8));
  }

  @Edge("2 BRIDE (a SLEEPER): LIMIT MORE more;")
  static void promise11ABridesLimitMayPass99() {
    DreamWindows x = one(29, 99, "dulls 0;limit 90;costs 0;");
    Check.due("99 by 90 and 9", x.view(0, 0), 0xffff);
    x.sleeper(28, 65535, 99);
    Check.due("99 by 90 and 8", x.view(1, 0), 0);
    Check.rule(x, "dulls 0;limit 99;costs 0;");
    Check.due("99 by 99 and 9", x.view(0, 0), 0xffff);
  }

  @Edge("3 BELIEVER (a MERCHANT): LIMIT 99, a CORNER, else what the text says;")
  static void promise11ABelieversCorners() {
    DreamWindows x = one(39, 99, "dulls 0;limit 0;costs 0;");
    Check.due("the corners", x.view(0, 0), CORNERS);
    Check.rule(x, "dulls 0;limit 99-99*(0<row)+99*(2<row);costs 0;");
    Check.due("and rows 0 and 3", x.view(0, 0), 0xf00f);
  }

  @Edge({"CORNERS: COLUMN and ROW 0 or 3 both;", "MIDDLE: COLUMN and ROW 1 or 2 both."})
  static void promise11CornersAndMiddleOfEveryCell() {
    DreamWindows x = one(20, 0, "dulls 0;limit 0;costs 4;");
    x.sleeper(30, 65535, 1);
    for (int c = 0; c < 16; c++) {
      Check.due("the MIDDLE at " + c, x.clean(0, c), has(MIDDLE, c) ? 10 : 5);
      Check.due("a CORNER at " + c, x.view(1, 0) >> c & 1, has(CORNERS, c) ? 1 : 0);
    }
  }

  @Edge("what all 16 CELLS COST, together (3).")
  static void promise11CostsOfAll16() {
    DreamWindows x = one(0, 99, "dulls 0;limit 0;costs 99;");
    Check.due("100 each", x.view(0, 3), 1600);
    x.sleeper(20, 0, 0);
    Check.due("a BRIDE's, the MIDDLE twice", x.view(1, 3), 1200 + 800);
    Check.rule(x, "dulls 0;limit 0;costs 0;");
    Check.due("1 each", x.view(0, 3), 16);
    x.sleeper(40, 0, 0);
    Check.due("a CHILD's, only the MIDDLE", x.view(2, 3), 4);
  }

  @Edge("CLEAR CELLS (what 0; bits), SEEN (1; bits), how many are SEEN (2),")
  static void promise11NothingAndEverything() {
    DreamWindows x = one(0, 0, "dulls 0;limit 0;costs 0;");
    Check.due("all are CLEAR", x.view(0, 0), 65535);
    Check.due("all are SEEN", x.view(0, 1), 65535);
    Check.due("16", x.view(0, 2), 16);
    x.put(0, 16, 0);
    Check.due("all are CLEAR yet", x.view(0, 0), 65535);
    Check.due("none are SEEN", x.view(0, 1), 0);
    Check.due("0", x.view(0, 2), 0);
    x.sleeper(0, 65535, 1);
    Check.due("none are CLEAR", x.view(1, 0), 0);
  }

  @Edge("-5: no such SLEEPER;")
  static void promise11NoSuchSleeper() {
    DreamWindows x = new DreamWindows();
    noSuchSleeper(x, s -> x.view(s, 0));
  }

  @Edge("-7: what.")
  static void promise11NoSuchWhat() {
    DreamWindows x = new DreamWindows();
    x.sleeper(0, 1, 5);
    for (int what : Check.outside(0, 3)) {
      Check.due("what " + what, x.view(0, what), -7);
    }
  }

  @Edge("-5: no such SLEEPER; -7: what.")
  static void promise11NoSuchSleeperAheadOfWhat() {
    Check.due("both", new DreamWindows().view(0, 4), -5);
  }

  // ---- 12

  @Edge("by each (1; bits; no SLEEPERS: 0),")
  static void promise12NoSleepers() {
    DreamWindows x = new DreamWindows();
    Check.due("by any", x.all(0), 0);
    Check.due("by each", x.all(1), 0);
    Check.due("how many", x.all(2), 0);
  }

  @Edge("by each (1; bits; no SLEEPERS: 0),")
  static void promise12OneSleeper() {
    DreamWindows x = new DreamWindows();
    x.sleeper(0, 0x8001, 0);
    Check.due("by any", x.all(0), 0x8001);
    Check.due("by each", x.all(1), 0x8001);
    Check.due("how many", x.all(2), 2);
  }

  @Edge("What is SEEN by any SLEEPER (what 0; bits),")
  static void promise12TheFirstAndTheLastOfSix() {
    DreamWindows x = new DreamWindows();
    for (int s = 0; s < 6; s++) {
      x.sleeper(0, 0x0ff0 | 1 << s | 1 << 15 - s, 0);
    }
    Check.due("by any", x.all(0), 0xffff);
    Check.due("by each", x.all(1), 0x0ff0);
    Check.due("how many", x.all(2), 4 * 10 + 2 * 8);
    x.put(5, 16, 0);
    Check.due("not by the last", x.all(1), 0);
    x.put(5, 16, 65535);
    x.put(0, 16, 0);
    Check.due("not by the first", x.all(1), 0);
  }

  @Edge("how many CELLS by all, together (2).")
  static void promise12All96() {
    DreamWindows x = new DreamWindows();
    for (int s = 0; s < 6; s++) {
      x.sleeper(0, 65535, 10);
    }
    Check.due("by all", x.all(2), 96);
    Check.due("by each", x.all(1), 65535);
  }

  @Edge("BAD.")
  static void promise12BadWhat() {
    DreamWindows x = new DreamWindows();
    for (int sleepers = 0; sleepers < 2; sleepers++) {
      for (int what : Check.outside(0, 2)) {
        Check.due("what " + what + " of " + sleepers, x.all(what), -2);
      }
      x.sleeper(0, 1, 1);
    }
  }

  // ---- 13

  private static void duller(int kindMore, String text, int nights, int corner, int elsewhere) {
    DreamWindows x = one(kindMore, 0, text);
    for (int i = 1; i <= nights; i++) {
      Check.due("NIGHT", x.sleep(), i);
    }
    for (int c = 0; c < 16; c++) {
      int due = has(CORNERS, c) ? corner : elsewhere;
      Check.due(kindMore + " behind " + nights + " by " + text + " at " + c, x.told(0, c), due);
    }
  }

  @Edge("each CELL, by numbers, is so much DULLER (99 at most; told as it is then);")
  static void promise13DullAt99AtMost() {
    DreamWindows x = one(0, 99, "dulls 50;limit 0;costs 0;");
    x.put(0, 0, 48);
    x.put(0, 1, 49);
    x.put(0, 15, 50);
    x.sleep();
    Check.due("48 and 50", x.told(0, 0), 98);
    Check.due("49 and 50", x.told(0, 1), 99);
    Check.due("50 and 50", x.told(0, 15), 99);
    Check.due("99 and 50", x.told(0, 2), 99);
    x.sleep();
    Check.due("all 99", x.told(0, 19), 99 * 16);
  }

  @Edge("1 MERCHANT (a SLEEPER): DULLER twice, a CORNER.")
  static void promise13AMerchantsCornersByTwiceTheMost() {
    duller(10, "dulls 49;limit 0;costs 0;", 1, 98, 49);
    duller(10, "dulls 50;limit 0;costs 0;", 1, 99, 50);
    duller(10, "dulls 9999;limit 0;costs 0;", 1, 99, 50);
    duller(19, "dulls 0;limit 0;costs 0;", 1, 0, 0);
  }

  @Edge("DULLER MORE more than a MERCHANT's.")
  static void promise13ABelieversMore() {
    duller(30, "dulls 4;limit 0;costs 0;", 1, 8, 4);
    duller(39, "dulls 0;limit 0;costs 0;", 1, 9, 9);
    duller(39, "dulls 45;limit 0;costs 0;", 1, 99, 54);
    duller(39, "dulls 50;limit 0;costs 0;", 2, 99, 99);
  }

  @Edge("4 CHILD (a BRIDE): DULLER 0;")
  static void promise13AChildNever() {
    duller(49, "dulls 50;limit 0;costs 0;", 3, 0, 0);
  }

  @Edge("5 MANAGER (a SLEEPER): DULLER MORE more, if NIGHT is odd, else 1;")
  static void promise13AManagersOddAndEvenNights() {
    duller(59, "dulls 10;limit 0;costs 0;", 1, 1, 1);
    duller(59, "dulls 10;limit 0;costs 0;", 2, 20, 20);
    duller(59, "dulls 10;limit 0;costs 0;", 3, 21, 21);
    duller(50, "dulls 0;limit 0;costs 0;", 1, 1, 1);
    duller(50, "dulls 0;limit 0;costs 0;", 2, 1, 1);
    duller(59, "dulls 50;limit 0;costs 0;", 4, 99, 99);
  }

  @Edge("then NIGHT is 1 more.")
  static void promise13TheNightIsTheOldOneForAll() {
    DreamWindows x = one(0, 0, "dulls 1+night*7;limit 0;costs 0;");
    x.sleeper(0, 0, 0);
    Check.due("the first", x.sleep(), 1);
    for (int s = 0; s < 2; s++) {
      Check.due("the first cell of " + s, x.told(s, 0), 1);
      Check.due("the last cell of " + s, x.told(s, 15), 1);
    }
    Check.due("the second", x.sleep(), 2);
    for (int s = 0; s < 2; s++) {
      Check.due("then the first cell of " + s, x.told(s, 0), 9);
      Check.due("then the last cell of " + s, x.told(s, 15), 9);
    }
  }

  @Edge("told as it is then)")
  static void promise13ByHowDullItIsThen() {
    DreamWindows x = one(0, 0, "dulls dull*2+1;limit 0;costs 0;");
    x.put(0, 15, 98);
    int[] due = {1, 4, 13, 40, 90, 99};
    for (int night = 0; night < 6; night++) {
      x.sleep();
      Check.due("behind " + (night + 1), x.told(0, 0), due[night]);
      Check.due("99 behind " + (night + 1), x.told(0, 15), 99);
    }
  }

  @Edge("A NIGHT: of all SLEEPERS, by numbers,")
  static void promise13AllSix() {
    DreamWindows x = new DreamWindows();
    for (int s = 0; s < 6; s++) {
      x.sleeper(0, 0, s);
    }
    Check.due("NIGHT", x.sleep(), 1);
    for (int s = 0; s < 6; s++) {
      Check.due("how DULL " + s + " is", x.told(s, 19), 16 * (s + 3));
    }
  }

  @Edge("A NIGHT, truly: NIGHT.")
  static void promise13NoSleepers() {
    DreamWindows x = new DreamWindows();
    Check.due("the first", x.sleep(), 1);
    Check.due("the second", x.sleep(), 2);
    Check.due("NIGHT", x.count(1), 2);
    x.sleeper(0, 0, 5);
    Check.due("is not duller for nights before", x.told(0, 0), 5);
  }

  // Beyond the 512 calls that are promised, but NIGHT comes to 999 no sooner.
  @Edge({"STATE: NIGHT is 999.", "NIGHT (0 .. 999; 0 at first; in thought it may pass 999)"})
  static void promise13StateAtNight999() {
    DreamWindows x = new DreamWindows();
    for (int i = 1; i <= 999; i++) {
      Check.due("NIGHT", x.sleep(), i);
    }
    x.sleeper(0, 1, 5);
    Check.unchanged(x, () -> Check.due("no more", x.sleep(), -3));
    Check.due("999", x.count(1), 999);
    Check.rule(x, "dulls night-990;limit 0;costs 0;");
    Check.due("in thought it passes", x.run(0, 2, 1), 16 * (5 + 9 + 10));
  }

  // ---- 14

  @Edge("STATE: it COSTS more than MINUTES.")
  static void promise14StateIfItCostsMore() {
    DreamWindows x = one(0, 50, "dulls 0;limit 0;costs 29;");
    x.hours(29);
    Check.unchanged(x, () -> Check.due("30 of 29", x.clean(0, 0), -3));
    x.hours(30);
    Check.due("30 of 30", x.clean(0, 0), 30);
    x.hours(31);
    Check.due("30 of 31", x.clean(0, 1), 30);
  }

  @Edge("STATE: it COSTS more than MINUTES.")
  static void promise14NoMinutes() {
    DreamWindows x = one(0, 50, "dulls 0;limit 0;costs 0;");
    x.sleeper(40, 0, 50);
    x.hours(0);
    Check.due("costs 1", x.clean(0, 0), -3);
    Check.due("a CHILD's costs 0", x.clean(1, 0), 0);
    Check.due("is clean", x.told(1, 0), 0);
    Check.due("of the MIDDLE 1", x.clean(1, 5), -3);
    Check.due("isn't", x.told(1, 5), 50);
  }

  @Edge("(MINUTES stay.)")
  static void promise14MinutesStay() {
    DreamWindows x = one(0, 50, "dulls 0;limit 0;costs 59;");
    for (int c = 0; c < 16; c++) {
      Check.due("60 of 60 at " + c, x.clean(0, c), 60);
      Check.due("MINUTES behind " + c, x.count(2), 60);
    }
  }

  @Edge({"To clean a CELL: it is DULL 0.", "A CELL is cleaned, truly: what it COST."})
  static void promise14OnlyThatCellIsDull0() {
    DreamWindows x = new DreamWindows();
    x.sleeper(0, 65535, 9);
    for (int c : Check.ends(0, 15)) {
      Check.due("what it COST at " + c, x.clean(0, c), 10);
      Check.due("DULL at " + c, x.told(0, c), 0);
      Check.due("CLEAN already at " + c, x.clean(0, c), 1);
    }
    Check.due("the others", x.told(0, 19), 14 * 9);
  }

  private static void cost(int kindMore, int said, int middle, int elsewhere) {
    DreamWindows x = one(kindMore, 0, "dulls 0;limit 0;costs " + said + ";");
    x.hours(999);
    for (int c = 0; c < 16; c++) {
      Check.due(kindMore + " by " + said + " at " + c, x.clean(0, c), has(MIDDLE, c) ? middle : elsewhere);
    }
  }

  @Edge("0 SLEEPER: that; that; 1 more.")
  static void promise14ASleepersCostsFrom1To100() {
    for (int kindMore : new int[] {9, 19, 39}) {
      cost(kindMore, 0, 1, 1);
      cost(kindMore, 99, 100, 100);
    }
  }

  @Edge("COSTS twice, a CELL of the MIDDLE.")
  static void promise14ABridesCostsFrom1To200() {
    cost(29, 0, 2, 1);
    cost(29, 99, 200, 100);
  }

  @Edge("COSTS half (cut) of a BRIDE's.")
  static void promise14AChildsCostsAreCut() {
    cost(49, 0, 1, 0);
    cost(49, 1, 2, 1);
    cost(49, 2, 3, 1);
    cost(49, 98, 99, 49);
    cost(49, 99, 100, 50);
  }

  @Edge("COSTS 5, if the text says less than 5, else as a SLEEPER.")
  static void promise14AManagersCostsBy4AndBy5() {
    cost(59, 0, 5, 5);
    cost(59, 3, 5, 5);
    cost(59, 4, 5, 5);
    cost(59, 5, 6, 6);
    cost(59, 99, 100, 100);
  }

  @Edge("-5: no such SLEEPER;")
  static void promise14NoSuchSleeper() {
    DreamWindows x = new DreamWindows();
    noSuchSleeper(x, s -> x.clean(s, 0));
  }

  @Edge("-7: no such CELL;")
  static void promise14NoSuchCell() {
    DreamWindows x = new DreamWindows();
    x.sleeper(0, 1, 5);
    Check.unchanged(x, () -> {
      for (int c : Check.outside(0, 15)) {
        Check.due("cell " + c, x.clean(0, c), -7);
      }
    });
  }

  @Edge("-5: no such SLEEPER; -7: no such CELL; STATE")
  static void promise14OfSeveralTheFirst() {
    DreamWindows x = new DreamWindows();
    x.hours(0);
    Check.due("all", x.clean(0, 16), -5);
    x.sleeper(0, 1, 99);
    Check.due("CELL and STATE", x.clean(0, 16), -7);
    Check.due("STATE", x.clean(0, 0), -3);
  }

  // ---- 15

  @Edge("n NIGHTS (0 .. 40), in thought:")
  static void promise15NoNights() {
    DreamWindows x = new DreamWindows();
    x.sleeper(0, 0x00ff, 10);
    x.put(0, 0, 11);
    Check.due("SEEN now", x.run(0, 0, 0), 0x00fe);
    Check.due("DULL now", x.run(0, 0, 1), 161);
  }

  @Edge("n NIGHTS (0 .. 40), in thought:")
  static void promise15FortyNights() {
    DreamWindows x = one(0, 0, "dulls 1;limit 40;costs 0;");
    x.put(0, 15, 1);
    Check.due("SEEN behind 39", x.run(0, 39, 0), 0xffff);
    Check.due("SEEN behind 40", x.run(0, 40, 0), 0x7fff);
    Check.due("DULL behind 40", x.run(0, 40, 1), 641);
  }

  @Edge("how DULL all one's CELLS are, together (1).")
  static void promise15At99AtMost() {
    DreamWindows x = one(0, 98, "dulls 50;limit 0;costs 0;");
    Check.due("behind 1", x.run(0, 1, 1), 99 * 16);
    Check.due("behind 40", x.run(0, 40, 1), 99 * 16);
  }

  @Edge("n NIGHTS (0 .. 40), in thought:")
  static void promise15FromTheNightNow() {
    DreamWindows x = one(50, 0, "dulls 9;limit 10*(night=3);costs 0;");
    x.sleep();
    // NIGHT is 1, odd: duller by 9, then by 1; the limit is 10 behind two further nights, 0 behind others.
    Check.due("behind 1", x.run(0, 1, 1), 16 * 10);
    Check.due("behind 2", x.run(0, 2, 1), 16 * 11);
    Check.due("SEEN behind 2", x.run(0, 2, 0), 0);
    x.put(0, 0, 0);
    Check.due("SEEN of 10 behind 2", x.run(0, 2, 0), 1);
    Check.due("SEEN of 9 behind 1", x.run(0, 1, 0), 0);
    x.sleeper(0, 0, 0);
    Check.rule(x, "dulls night;limit 0;costs 0;");
    Check.due("duller by NIGHTS 1, 2 and 3", x.run(1, 3, 1), 16 * 6);
  }

  @Edge({"n NIGHTS (0 .. 40), in thought:", "What is asked changes nothing, but where it is told."})
  static void promise15InThoughtOnly() {
    DreamWindows x = new DreamWindows();
    x.sleeper(0, 65535, 5);
    x.sleeper(50, 65535, 5);
    Check.unchanged(x, () -> {
      x.run(0, 40, 0);
      x.run(1, 40, 1);
    });
    Check.due("again", x.run(0, 1, 1), 8 * 16);
  }

  @Edge("-5: no such SLEEPER;")
  static void promise15NoSuchSleeper() {
    DreamWindows x = new DreamWindows();
    noSuchSleeper(x, s -> x.run(s, 1, 0));
  }

  @Edge("-7: n, what.")
  static void promise15NoSuchN() {
    DreamWindows x = new DreamWindows();
    x.sleeper(0, 1, 5);
    for (int n : Check.outside(0, 40)) {
      Check.due("n " + n, x.run(0, n, 0), -7);
      Check.due("n " + n + ", together", x.run(0, n, 1), -7);
    }
  }

  @Edge("-7: n, what.")
  static void promise15NoSuchWhat() {
    DreamWindows x = new DreamWindows();
    x.sleeper(0, 1, 5);
    for (int what : Check.outside(0, 1)) {
      Check.due("what " + what, x.run(0, 0, what), -7);
    }
  }

  @Edge("-5: no such SLEEPER; -7: n, what.")
  static void promise15NoSuchSleeperAheadOfNAndWhat() {
    DreamWindows x = new DreamWindows();
    Check.due("n", x.run(0, 41, 0), -5);
    Check.due("what", x.run(0, 0, 2), -5);
  }

  // ---- 16

  @Edge("Behind how many NIGHTS (0 .. 40) nothing is SEEN for the first time;")
  static void promise16BehindNone() {
    DreamWindows x = new DreamWindows();
    x.sleeper(0, 0, 0);
    Check.due("no PICTURE", x.blind(0), 0);
    x.sleeper(0, 65535, 11);
    Check.due("too dull already", x.blind(1), 0);
    x.put(1, 7, 10);
    Check.due("one is SEEN now", x.blind(1), 1);
  }

  @Edge("Behind how many NIGHTS (0 .. 40) nothing is SEEN for the first time;")
  static void promise16BehindForty() {
    DreamWindows x = one(0, 99, "dulls 1;limit 39;costs 0;");
    x.put(0, 15, 0);
    Check.due("40", x.blind(0), 40);
    x.put(0, 15, 1);
    Check.due("39", x.blind(0), 39);
  }

  @Edge("-1: never.")
  static void promise16NeverIfBehindMoreThanForty() {
    DreamWindows x = one(0, 99, "dulls 1;limit 40;costs 0;");
    x.put(0, 15, 0);
    Check.due("it would be 41", x.blind(0), -1);
    x.put(0, 15, 1);
    Check.due("40", x.blind(0), 40);
    Check.rule(x, "dulls 0;limit 99;costs 0;");
    Check.due("for ever", x.blind(0), -1);
  }

  @Edge("Behind how many NIGHTS (0 .. 40) nothing is SEEN for the first time;")
  static void promise16TheFirstTimeThoughItIsSeenAgain() {
    DreamWindows x = one(0, 5, "dulls 0;limit 5-5*(night=2)-5*(night=4);costs 0;");
    Check.due("behind 2", x.blind(0), 2);
    x.sleep();
    Check.due("now behind 1", x.blind(0), 1);
    x.sleep();
    Check.due("now behind none", x.blind(0), 0);
    x.sleep();
    Check.due("again behind 1", x.blind(0), 1);
  }

  @Edge("Behind how many NIGHTS (0 .. 40) nothing is SEEN for the first time;")
  static void promise16FromTheNightNow() {
    DreamWindows x = one(0, 5, "dulls 9*(night=3);limit 5;costs 0;");
    for (int night = 0; night <= 3; night++) {
      Check.due("from NIGHT " + night, x.blind(0), 4 - night);
      x.sleep();
    }
    Check.due("it is so now", x.blind(0), 0);
  }

  @Edge("What is asked changes nothing, but where it is told.")
  static void promise16InThoughtOnly() {
    DreamWindows x = new DreamWindows();
    x.sleeper(50, 65535, 5);
    Check.unchanged(x, () -> x.blind(0));
  }

  @Edge("-5: no such SLEEPER.")
  static void promise16NoSuchSleeper() {
    DreamWindows x = new DreamWindows();
    noSuchSleeper(x, s -> x.blind(s));
  }
}
