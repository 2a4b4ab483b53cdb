/** Boundary cases of promises 23 to 28: told mornings. */
final class ToldEdges {
  private ToldEdges() {}

  /** One SLEEPER: DULL 5, so by the first law SEEN behind 0 and 1 NIGHTS. */
  private static DreamWindows one() {
    DreamWindows x = new DreamWindows();
    x.sleeper(0, 0x8001, 5);
    return x;
  }

  private interface Asked {
    int of(DreamWindows x, int q, int s);
  }

  private static void badSheet(Asked asked) {
    DreamWindows x = one();
    for (int q = 0; q < 4; q++) {
      Check.tell(x, q, 0x8001);
    }
    for (int q : Check.outside(0, 3)) {
      Check.due("sheet " + q, asked.of(x, q, 0), -2);
    }
    for (int q : Check.ends(0, 3)) {
      Check.due("sheet " + q + " is none", asked.of(x, q, 0) < -1 ? 1 : 0, 0);
    }
  }

  private static void missingSheet(Asked asked) {
    DreamWindows x = one();
    for (int q = 0; q < 4; q++) {
      Check.due("missing at first " + q, asked.of(x, q, 0), -11);
    }
    Check.tell(x, 2, 0x8001);
    x.sheet(2, -1, 0);
    Check.due("missing again", asked.of(x, 2, 0), -11);
    x.sheet(2, 0, 0);
    Check.due("empty is not missing", asked.of(x, 2, 0) == -11 ? 1 : 0, 0);
  }

  private static void moreThanTwenty(Asked asked) {
    DreamWindows x = one();
    for (int sort = 0; sort < 3; sort++) {
      x.sheet(1, sort, 20);
      Check.due("20 of sort " + sort + " are not", asked.of(x, 1, 0) < -1 ? 1 : 0, 0);
      x.sheet(1, sort, 21);
      Check.due("21 of sort " + sort, asked.of(x, 1, 0), -2);
      x.sheet(1, sort, 40);
      Check.due("40 of sort " + sort, asked.of(x, 1, 0), -2);
    }
  }

  private static void noSuchSleeper(Asked asked) {
    DreamWindows x = new DreamWindows();
    Check.tell(x, 0, 1);
    Check.due("nobody is there", asked.of(x, 0, 0), -5);
    x.sleeper(0, 1, 5);
    x.sleeper(0, 2, 6);
    for (int s : Check.outside(0, 1)) {
      Check.due("sleeper " + s, asked.of(x, 0, s), -5);
    }
    Check.due("the last one is there", asked.of(x, 0, 1) == -5 ? 1 : 0, 0);
  }

  /** Each refusal ahead of those told behind it; the call is to be wrong in what else it takes, too. */
  private static void ofSeveralTheFirst(Asked asked) {
    DreamWindows x = new DreamWindows();
    Check.due("SHEET and SLEEPER", asked.of(x, 4, 0), -2);
    Check.due("missing and SLEEPER", asked.of(x, 0, 0), -11);
    x.sheet(0, 2, 21);
    Check.due("too many and SLEEPER", asked.of(x, 0, 0), -2);
    x.sheet(0, 2, 20);
    Check.due("SLEEPER", asked.of(x, 0, 0), -5);
  }

  private static void inThoughtOnly(Asked asked) {
    DreamWindows x = new DreamWindows();
    x.sleeper(50, 0x8001, 5);
    Check.tell(x, 0, 0x8001, 0x8001, 0);
    Check.unchanged(x, () -> asked.of(x, 0, 0));
    int[] due = {0x8001, 0x8001, 0};
    for (int i = 0; i < 3; i++) {
      Check.due("number " + i, Check.bits(x, 0, 2, i), due[i]);
    }
  }

  // ---- 23

  @Edge("A SHEET tells what is SEEN behind 0, 1, .. NIGHTS (20 at most):")
  static void promise23NothingTold() {
    DreamWindows x = one();
    for (int sort = 0; sort < 3; sort++) {
      x.sheet(0, sort, 0);
      Check.due("of sort " + sort, x.judge(0, 0), -1);
    }
  }

  @Edge({"A SHEET tells what is SEEN behind 0, 1, .. NIGHTS (20 at most):", "the first number that is otherwise;"})
  static void promise23TheFirstAndTheTwentieth() {
    DreamWindows x = one();
    x.put(0, 16, 0);
    x.sheet(0, 2, 20);
    Check.due("none", x.judge(0, 0), -1);
    x.cell(0, 19, 1);
    Check.due("the last", x.judge(0, 0), 19);
    x.cell(0, 7, 1);
    Check.due("one ahead", x.judge(0, 0), 7);
    x.cell(0, 0, 1);
    Check.due("the first", x.judge(0, 0), 0);
  }

  @Edge("-1: none.")
  static void promise23NoneIsOtherwise() {
    DreamWindows x = one();
    Check.tell(x, 0, 0x8001, 0x8001, 0, 0);
    Check.due("right", x.judge(0, 0), -1);
    Check.tell(x, 0, 0x8001);
    Check.due("only the first, right", x.judge(0, 0), -1);
    Check.tell(x, 0, 0x8001, 0x8001, 0x8001);
    Check.due("one too many", x.judge(0, 0), 2);
  }

  /** By this text one is duller in NIGHT 2 alone, and SEEN, too dull for it before, in NIGHT 4. */
  private static DreamWindows byNights() {
    DreamWindows x = Check.by("dulls 9*(night=2);limit 5+20*(night=4);costs 0;");
    x.sleeper(0, 0x8001, 5);
    x.sleep();
    return x;
  }

  @Edge("A SHEET tells what is SEEN behind 0, 1, .. NIGHTS (20 at most):")
  static void promise23FromTheNightNow() {
    DreamWindows x = byNights();
    Check.tell(x, 0, 0x8001, 0x8001, 0, 0x8001, 0);
    Check.due("from NIGHT 1", x.judge(0, 0), -1);
    x.cell(0, 2, 0x8001);
    Check.due("duller in NIGHT 2", x.judge(0, 0), 2);
    x.cell(0, 2, 0);
    x.cell(0, 3, 0);
    Check.due("SEEN in NIGHT 4", x.judge(0, 0), 3);
  }

  @Edge("the first number that is otherwise;")
  static void promise23BitsThatNoCellHas() {
    DreamWindows x = one();
    Check.tell(x, 0, 0x8001 | 1 << 16);
    Check.due("bit 16", x.judge(0, 0), 0);
    Check.tell(x, 0, 0x8001 | 1 << 31);
    Check.due("bit 31", x.judge(0, 0), 0);
    Check.tell(x, 0, -1);
    Check.due("all bits", x.judge(0, 0), 0);
  }

  @Edge("BAD: SHEET;")
  static void promise23BadSheet() {
    badSheet((x, q, s) -> x.judge(q, s));
  }

  @Edge("-11;")
  static void promise23MissingSheet() {
    missingSheet((x, q, s) -> x.judge(q, s));
  }

  @Edge("BAD: it tells more than 20;")
  static void promise23BadMoreThanTwenty() {
    moreThanTwenty((x, q, s) -> x.judge(q, s));
  }

  @Edge("-5: no such SLEEPER.")
  static void promise23NoSuchSleeper() {
    noSuchSleeper((x, q, s) -> x.judge(q, s));
  }

  @Edge("BAD: SHEET; -11; BAD: it tells more than 20; -5: no such SLEEPER.")
  static void promise23OfSeveralTheFirst() {
    ofSeveralTheFirst((x, q, s) -> x.judge(q, s));
  }

  @Edge("What is asked changes nothing, but where it is told.")
  static void promise23InThoughtOnly() {
    inThoughtOnly((x, q, s) -> x.judge(q, s));
  }

  // ---- 24

  @Edge("KINDS (sort 0; bits 0 .. 5), MORE (1; bits 0 .. 9) by which, were they one's, that would be -1.")
  static void promise24AllAndNone() {
    DreamWindows x = one();
    x.sheet(0, 2, 0);
    Check.due("KINDS by nothing told", x.kinds(0, 0, 0), 63);
    Check.due("MORE by nothing told", x.kinds(0, 0, 1), 1023);
    Check.tell(x, 0, 0x8001);
    Check.due("all KINDS", x.kinds(0, 0, 0), 63);
    Check.due("all MORE", x.kinds(0, 0, 1), 1023);
    Check.tell(x, 0, 1);
    Check.due("no KINDS", x.kinds(0, 0, 0), 0);
    Check.due("no MORE", x.kinds(0, 0, 1), 0);
  }

  @Edge("KINDS (sort 0; bits 0 .. 5)")
  static void promise24TheFirstAndTheLastKind() {
    DreamWindows x = Check.by("dulls 2;limit 10;costs 0;");
    x.sleeper(0, 0x8000, 9);
    Check.tell(x, 0, 0x8000, 0x8000);
    // DULL 9, then 11; of a MERCHANT 13, limit 10; of a BELIEVER limit 99; of a CHILD 9, of a MANAGER 10.
    Check.due("MANAGER, CHILD, BELIEVER", x.kinds(0, 0, 0), 1 << 5 | 1 << 4 | 1 << 3);
    Check.tell(x, 0, 0x8000, 0);
    Check.due("SLEEPER, MERCHANT, BRIDE", x.kinds(0, 0, 0), 1 | 1 << 1 | 1 << 2);
    Check.tell(x, 0, 0x8000, 0x8000, 0);
    Check.due("only the last", x.kinds(0, 0, 0), 1 << 5);
    x.put(0, 16, 1 << 14);
    x.put(0, 14, 0);
    Check.rule(x, "dulls 9;limit 3;costs 0;");
    Check.tell(x, 0, 1 << 14, 0);
    Check.due("SLEEPER to BELIEVER", x.kinds(0, 0, 0), 1 | 1 << 1 | 1 << 2 | 1 << 3);
  }

  @Edge("MORE (1; bits 0 .. 9)")
  static void promise24TheLeastAndTheMostMore() {
    DreamWindows x = Check.by("dulls 0;limit more;costs 0;");
    x.sleeper(4, 1, 9);
    Check.tell(x, 0, 1);
    Check.due("only 9", x.kinds(0, 0, 1), 1 << 9);
    x.put(0, 0, 1);
    Check.due("all but 0", x.kinds(0, 0, 1), 1023 - 1);
    Check.tell(x, 0, 0);
    Check.due("only 0", x.kinds(0, 0, 1), 1);
  }

  @Edge("were they one's,")
  static void promise24WithOnesOwnMoreOrKind() {
    DreamWindows x = Check.by("dulls 0;limit 10;costs 0;");
    x.sleeper(3, 2, 13);
    Check.tell(x, 0, 2);
    Check.due("a BRIDE's or a CHILD's limit by MORE 3", x.kinds(0, 0, 0), 1 << 2 | 1 << 4);
    x.sleeper(22, 2, 13);
    Check.due("a BRIDE's by MORE 3 or more", x.kinds(0, 1, 1), 1023 & ~7);
    Check.due("none by MORE 2", x.kinds(0, 1, 0), 0);
  }

  @Edge("BAD, -11, BAD, -5 likewise;")
  static void promise24BadSheet() {
    badSheet((x, q, s) -> x.kinds(q, s, 0));
    badSheet((x, q, s) -> x.kinds(q, s, 1));
  }

  @Edge("BAD, -11, BAD, -5 likewise;")
  static void promise24MissingSheet() {
    missingSheet((x, q, s) -> x.kinds(q, s, 0));
    missingSheet((x, q, s) -> x.kinds(q, s, 1));
  }

  @Edge("BAD, -11, BAD, -5 likewise;")
  static void promise24BadMoreThanTwenty() {
    moreThanTwenty((x, q, s) -> x.kinds(q, s, 0));
    moreThanTwenty((x, q, s) -> x.kinds(q, s, 1));
  }

  @Edge("BAD, -11, BAD, -5 likewise;")
  static void promise24NoSuchSleeper() {
    noSuchSleeper((x, q, s) -> x.kinds(q, s, 0));
    noSuchSleeper((x, q, s) -> x.kinds(q, s, 1));
  }

  @Edge("-7: sort.")
  static void promise24NoSuchSort() {
    DreamWindows x = one();
    Check.tell(x, 0, 1);
    for (int sort : Check.outside(0, 1)) {
      Check.due("sort " + sort, x.kinds(0, 0, sort), -7);
    }
  }

  @Edge("BAD, -11, BAD, -5 likewise; -7: sort.")
  static void promise24OfSeveralTheFirst() {
    ofSeveralTheFirst((x, q, s) -> x.kinds(q, s, 2));
  }

  @Edge("What is asked changes nothing, but where it is told.")
  static void promise24InThoughtOnly() {
    inThoughtOnly((x, q, s) -> x.kinds(q, s, 0));
    inThoughtOnly((x, q, s) -> x.kinds(q, s, 1));
  }

  // ---- 25

  private static void dims(String what, DreamWindows x, int cell, int many, int least) {
    Check.due(what + ": how many", x.dims(0, 0, 10 * cell), many);
    Check.due(what + ": the least", x.dims(0, 0, 10 * cell + 1), least);
  }

  @Edge("How DULL (0 .. 99) it could be now so that that would be -1: how many (what 0),")
  static void promise25AllHundred() {
    DreamWindows x = one();
    x.sheet(0, 2, 0);
    dims("nothing told", x, 0, 100, 0);
    dims("nothing told", x, 15, 100, 0);
    Check.tell(x, 0, 0x8001, 0x8001, 0);
    dims("nothing behind it", x, 7, 100, 0);
  }

  @Edge("How DULL (0 .. 99) it could be now so that that would be -1: how many (what 0),")
  static void promise25From0AndTo99() {
    DreamWindows x = one();
    Check.tell(x, 0, 0x8001);
    dims("0 to 10", x, 0, 11, 0);
    dims("0 to 10", x, 15, 11, 0);
    Check.tell(x, 0, 0x8000);
    dims("11 to 99", x, 0, 89, 11);
    Check.tell(x, 0, 0x0001);
    dims("11 to 99", x, 15, 89, 11);
    Check.rule(x, "dulls 0;limit 98;costs 0;");
    dims("only 99", x, 15, 1, 99);
    Check.rule(x, "dulls 0;limit 0;costs 0;");
    x.put(0, 0, 0);
    dims("1 to 99", x, 15, 99, 1);
    Check.tell(x, 0, 0x8001);
    dims("only 0", x, 15, 1, 0);
  }

  @Edge("How DULL (0 .. 99) it could be now so that that would be -1: how many (what 0),")
  static void promise25FromTheNightNow() {
    DreamWindows x = byNights();
    Check.tell(x, 0, 0x8001, 0x8001, 0);
    dims("0 to 5", x, 0, 6, 0);
    Check.tell(x, 0, 0x8001, 0x8001, 0, 0x8001, 0);
    dims("0 to 5, SEEN in NIGHT 4", x, 15, 6, 0);
    x.put(0, 0, 99);
    Check.tell(x, 0, 0, 0, 0, 0x8000, 0);
    dims("6 to 16", x, 15, 11, 6);
  }

  @Edge("the least (1; -1: none).")
  static void promise25NoneIfAnotherOneIsOtherwise() {
    DreamWindows x = one();
    for (int cell = 0; cell < 16; cell++) {
      // All are CLEAR; of each but this one the first number tells so.
      x.put(0, 16, 65535);
      Check.tell(x, 0, 65535 & ~(1 << cell));
      for (int asked = 0; asked < 16; asked += 5) {
        dims("cell " + asked + ", of " + cell + " told otherwise", x, asked, asked == cell ? 89 : 0,
            asked == cell ? 11 : -1);
      }
    }
  }

  @Edge("the least (1; -1: none).")
  static void promise25None() {
    DreamWindows x = one();
    Check.tell(x, 0, 0x8003);
    dims("seen, but nothing is behind it", x, 1, 0, -1);
    Check.tell(x, 0, 0x0001, 0x8001);
    dims("first dull, then clear", x, 15, 0, -1);
    Check.tell(x, 0, 0x0001);
    dims("another one is otherwise", x, 0, 0, -1);
    Check.tell(x, 0, 0x8001 | 1 << 16);
    dims("a bit that no cell has", x, 0, 0, -1);
    Check.tell(x, 0, 0x8001 | 1 << 31);
    dims("the highest bit", x, 0, 0, -1);
  }

  @Edge("BAD, -11, BAD, -5 likewise;")
  static void promise25BadSheet() {
    badSheet((x, q, s) -> x.dims(q, s, 0));
    badSheet((x, q, s) -> x.dims(q, s, 1));
  }

  @Edge("BAD, -11, BAD, -5 likewise;")
  static void promise25MissingSheet() {
    missingSheet((x, q, s) -> x.dims(q, s, 0));
    missingSheet((x, q, s) -> x.dims(q, s, 151));
  }

  @Edge("BAD, -11, BAD, -5 likewise;")
  static void promise25BadMoreThanTwenty() {
    moreThanTwenty((x, q, s) -> x.dims(q, s, 0));
    moreThanTwenty((x, q, s) -> x.dims(q, s, 151));
  }

  @Edge("BAD, -11, BAD, -5 likewise;")
  static void promise25NoSuchSleeper() {
    noSuchSleeper((x, q, s) -> x.dims(q, s, 0));
    noSuchSleeper((x, q, s) -> x.dims(q, s, 151));
  }

  @Edge({"cellWhat: 10 times a CELL, and what.", "-7: cellWhat."})
  static void promise25NoSuchCellWhat() {
    DreamWindows x = one();
    Check.tell(x, 0, 0x8001);
    for (int cellWhat : new int[] {-1, -9, -10, -11, 2, 9, 12, 19, 152, 159, 160, 161, 1000}) {
      Check.due("cellWhat " + cellWhat, x.dims(0, 0, cellWhat), -7);
    }
    Check.due("far above", x.dims(0, 0, Integer.MAX_VALUE), -7);
    Check.due("far below", x.dims(0, 0, Integer.MIN_VALUE), -7);
    Check.due("0 is one", x.dims(0, 0, 0), 11);
    Check.due("151 is one", x.dims(0, 0, 151), 0);
  }

  @Edge("BAD, -11, BAD, -5 likewise; -7: cellWhat.")
  static void promise25OfSeveralTheFirst() {
    ofSeveralTheFirst((x, q, s) -> x.dims(q, s, 2));
  }

  @Edge("What is asked changes nothing, but where it is told.")
  static void promise25InThoughtOnly() {
    inThoughtOnly((x, q, s) -> x.dims(q, s, 0));
    inThoughtOnly((x, q, s) -> x.dims(q, s, 151));
  }

  // ---- 26

  @Edge("TEXTS (bits), were they THE LAW, by which that would be -1.")
  static void promise26TheFirstTextAndTheLastOfSix() {
    DreamWindows x = one();
    Check.tell(x, 0, 0x8001);
    Check.due("of one", x.laws(0, 0), 1);
    for (int t = 1; t <= 5; t++) {
      Check.read(x, "dulls 0;limit " + t + ";costs 0;");
    }
    Check.due("the first and the last", x.laws(0, 0), 1 | 1 << 5);
    Check.tell(x, 0, 0);
    Check.due("those between", x.laws(0, 0), 2 | 4 | 8 | 16);
    Check.due("THE LAW stays", x.count(4), 0);
  }

  @Edge("TEXTS (bits), were they THE LAW, by which that would be -1.")
  static void promise26AllAndNone() {
    DreamWindows x = one();
    Check.read(x, "dulls 0;limit 99;costs 0;");
    x.sheet(0, 2, 0);
    Check.due("nothing told", x.laws(0, 0), 3);
    Check.tell(x, 0, 1);
    Check.due("none", x.laws(0, 0), 0);
  }

  @Edge("BAD, -11, BAD, -5 likewise.")
  static void promise26BadSheet() {
    badSheet((x, q, s) -> x.laws(q, s));
  }

  @Edge("BAD, -11, BAD, -5 likewise.")
  static void promise26MissingSheet() {
    missingSheet((x, q, s) -> x.laws(q, s));
  }

  @Edge("BAD, -11, BAD, -5 likewise.")
  static void promise26BadMoreThanTwenty() {
    moreThanTwenty((x, q, s) -> x.laws(q, s));
  }

  @Edge("BAD, -11, BAD, -5 likewise.")
  static void promise26NoSuchSleeper() {
    noSuchSleeper((x, q, s) -> x.laws(q, s));
  }

  @Edge("BAD, -11, BAD, -5 likewise.")
  static void promise26OfSeveralTheFirst() {
    ofSeveralTheFirst((x, q, s) -> x.laws(q, s));
  }

  @Edge("What is asked changes nothing, but where it is told.")
  static void promise26InThoughtOnly() {
    inThoughtOnly((x, q, s) -> x.laws(q, s));
  }

  // ---- 27

  @Edge("Of bits 0 .. 15 those that any number told has (what 0),")
  static void promise27Bits0To15() {
    DreamWindows x = one();
    Check.tell(x, 0, 1, 1 << 15, 1 << 16, 1 << 30, 1 << 31);
    Check.due("0 and 15", x.guess(0, 0, 0), 0x8001);
    Check.tell(x, 0, -1);
    Check.due("all", x.guess(0, 0, 0), 65535);
    Check.tell(x, 0, 1 << 16);
    Check.due("none of 16 up", x.guess(0, 0, 0), 0);
  }

  @Edge("Of bits 0 .. 15 those that any number told has (what 0),")
  static void promise27TheFirstAndTheTwentiethNumber() {
    DreamWindows x = one();
    x.sheet(0, 2, 20);
    Check.due("all 0", x.guess(0, 0, 0), 0);
    x.cell(0, 0, 2);
    x.cell(0, 19, 4);
    Check.due("both", x.guess(0, 0, 0), 6);
  }

  @Edge("those of CELLS that are CLEAR behind none of as many NIGHTS as are told (0, 1, ..) (1).")
  static void promise27NothingTold() {
    DreamWindows x = one();
    x.sheet(0, 2, 0);
    Check.due("no bits", x.guess(0, 0, 0), 0);
    Check.due("behind none of no NIGHTS", x.guess(0, 0, 1), 65535);
  }

  @Edge("those of CELLS that are CLEAR behind none of as many NIGHTS as are told (0, 1, ..) (1).")
  static void promise27TheFirstAndTheLastNight() {
    DreamWindows x = Check.by("dulls 0;limit 9*(night=19)+5*(night=20);costs 0;");
    x.sleeper(0, 0, 7);
    x.put(0, 0, 0);
    x.sheet(0, 2, 1);
    Check.due("behind 0 only cell 0", x.guess(0, 0, 1), 0xfffe);
    x.sheet(0, 2, 19);
    Check.due("of 19, not yet", x.guess(0, 0, 1), 0xfffe);
    x.sheet(0, 2, 20);
    Check.due("of 20, behind the last", x.guess(0, 0, 1), 0);
    x.put(0, 15, 99);
    Check.due("but the last cell", x.guess(0, 0, 1), 0x8000);
  }

  @Edge("those of CELLS that are CLEAR behind none of as many NIGHTS as are told (0, 1, ..) (1).")
  static void promise27FromTheNightNow() {
    DreamWindows x = byNights();
    for (int c = 1; c < 16; c++) {
      x.put(0, c, c + 2);
    }
    x.sheet(0, 2, 1);
    // DULL 5, 3, 4, 5, 6, .. 17; 9 more behind 2 NIGHTS, limits 5, 5, 5, 25 and 5.
    Check.due("of 1", x.guess(0, 0, 1), 0xfff0);
    x.sheet(0, 2, 3);
    Check.due("of 3", x.guess(0, 0, 1), 0xfff0);
    x.sheet(0, 2, 4);
    Check.due("of 4", x.guess(0, 0, 1), 0x8000);
    x.sheet(0, 2, 5);
    Check.due("of 5", x.guess(0, 0, 1), 0x8000);
  }

  @Edge("those of CELLS that are CLEAR behind none of as many NIGHTS as are told (0, 1, ..) (1).")
  static void promise27ClearBehindNoneThoughNothingIsBehindIt() {
    DreamWindows x = one();
    Check.tell(x, 0, 0);
    Check.due("all are CLEAR", x.guess(0, 0, 1), 0);
    x.put(0, 3, 10);
    x.put(0, 4, 11);
    Check.due("as dull as its limit is", x.guess(0, 0, 1), 1 << 4);
  }

  @Edge("BAD, -11, BAD, -5 likewise;")
  static void promise27BadSheet() {
    badSheet((x, q, s) -> x.guess(q, s, 0));
    badSheet((x, q, s) -> x.guess(q, s, 1));
  }

  @Edge("BAD, -11, BAD, -5 likewise;")
  static void promise27MissingSheet() {
    missingSheet((x, q, s) -> x.guess(q, s, 0));
    missingSheet((x, q, s) -> x.guess(q, s, 1));
  }

  @Edge("BAD, -11, BAD, -5 likewise;")
  static void promise27BadMoreThanTwenty() {
    moreThanTwenty((x, q, s) -> x.guess(q, s, 0));
    moreThanTwenty((x, q, s) -> x.guess(q, s, 1));
  }

  @Edge("BAD, -11, BAD, -5 likewise;")
  static void promise27NoSuchSleeper() {
    noSuchSleeper((x, q, s) -> x.guess(q, s, 0));
    noSuchSleeper((x, q, s) -> x.guess(q, s, 1));
  }

  @Edge("-7: what.")
  static void promise27NoSuchWhat() {
    DreamWindows x = one();
    Check.tell(x, 0, 1);
    for (int what : Check.outside(0, 1)) {
      Check.due("what " + what, x.guess(0, 0, what), -7);
    }
  }

  @Edge("BAD, -11, BAD, -5 likewise; -7: what.")
  static void promise27OfSeveralTheFirst() {
    ofSeveralTheFirst((x, q, s) -> x.guess(q, s, 2));
  }

  @Edge("What is asked changes nothing, but where it is told.")
  static void promise27InThoughtOnly() {
    inThoughtOnly((x, q, s) -> x.guess(q, s, 0));
    inThoughtOnly((x, q, s) -> x.guess(q, s, 1));
  }

  // ---- 28

  @Edge("A SHEET truly becomes what is SEEN behind 0, 1, .., n less 1 NIGHTS (n 0 .. 20; ints): n.")
  static void promise28NoNights() {
    DreamWindows x = one();
    Check.due("of a missing one", x.film(0, 0, 0), 0);
    Check.due("is there", x.judge(0, 0), -1);
    Check.due("has no number", x.cell(0, 0, 0), -12);
    Check.tell(x, 0, 1, 2, 3);
    Check.due("of three", x.film(0, 0, 0), 0);
    Check.due("no number is left", x.cell(0, 0, 0), -12);
  }

  @Edge("A SHEET truly becomes what is SEEN behind 0, 1, .., n less 1 NIGHTS (n 0 .. 20; ints): n.")
  static void promise28TwentyNights() {
    DreamWindows x = Check.by("dulls 1;limit 18;costs 0;");
    x.sleeper(0, 0x8001, 0);
    x.put(0, 15, 99);
    Check.due("20", x.film(3, 0, 20), 20);
    x.sheet(0, 2, 1);
    for (int i = 0; i < 20; i++) {
      x.copy(3, i, 0, 0, 1);
      Check.due("behind " + i, x.guess(0, 0, 0), i <= 18 ? 1 : 0);
    }
    Check.due("a 20th number", x.cell(3, 19, 0), 1);
    Check.due("no 21st", x.cell(3, 20, 0), -12);
  }

  @Edge("A SHEET truly becomes what is SEEN behind 0, 1, .., n less 1 NIGHTS (n 0 .. 20; ints): n.")
  static void promise28IntsWhateverItWas() {
    DreamWindows x = one();
    x.put(0, 16, 65535);
    x.sheet(1, 2, 1);
    for (int sort = -1; sort < 3; sort++) {
      x.sheet(0, sort, 40);
      Check.due("of sort " + sort, x.film(0, 0, 2), 2);
      Check.due("are ints", x.copy(0, 1, 1, 0, 1), 1);
      Check.due("with bit 15", x.guess(1, 0, 0), 65535);
      Check.due("no sign", x.judge(1, 0), -1);
      Check.due("two", x.cell(0, 2, 0), -12);
    }
  }

  @Edge("A SHEET truly becomes what is SEEN behind 0, 1, .., n less 1 NIGHTS (n 0 .. 20; ints): n.")
  static void promise28FromTheNightNow() {
    DreamWindows x = byNights();
    Check.due("5", x.film(0, 0, 5), 5);
    int[] due = {0x8001, 0x8001, 0, 0x8001, 0};
    for (int i = 0; i < 5; i++) {
      Check.due("behind " + i, Check.bits(x, 0, 2, i), due[i]);
    }
  }

  @Edge("BAD: SHEET;")
  static void promise28BadSheet() {
    DreamWindows x = one();
    for (int q : Check.outside(0, 3)) {
      Check.due("sheet " + q, x.film(q, 0, 1), -2);
    }
    Check.due("0 is one", x.film(0, 0, 1), 1);
    Check.due("3 is one", x.film(3, 0, 1), 1);
  }

  @Edge("-5: no such SLEEPER;")
  static void promise28NoSuchSleeper() {
    noSuchSleeper((x, q, s) -> x.film(q, s, 1));
  }

  @Edge("-7: n.")
  static void promise28NoSuchN() {
    DreamWindows x = one();
    for (int n : Check.outside(0, 20)) {
      Check.due("n " + n, x.film(0, 0, n), -7);
    }
  }

  @Edge("BAD: SHEET; -5: no such SLEEPER; -7: n.")
  static void promise28OfSeveralTheFirst() {
    DreamWindows x = new DreamWindows();
    Check.due("all", x.film(4, 0, 21), -2);
    Check.due("SLEEPER and n", x.film(0, 0, 21), -5);
    x.sleeper(0, 1, 5);
    Check.due("SHEET and n", x.film(4, 0, 21), -2);
    Check.due("n", x.film(0, 0, 21), -7);
  }

  @Edge("They change nothing, but where it is told.")
  static void promise28TheSheetStaysBehindARefusal() {
    DreamWindows x = one();
    x.film(0, 1, 1);
    x.film(0, 0, 21);
    Check.due("missing yet", x.cell(0, 0, 0), -11);
    Check.tell(x, 0, 0x8001, 0x8001);
    x.film(0, 1, 1);
    x.film(0, 0, 21);
    x.film(0, 0, -1);
    Check.due("two numbers", x.cell(0, 2, 0), -12);
    Check.due("as they were", x.judge(0, 0), -1);
  }

  @Edge("What is asked changes nothing, but where it is told.")
  static void promise28OnlyTheSheet() {
    DreamWindows x = new DreamWindows();
    x.sleeper(50, 65535, 5);
    Check.unchanged(x, () -> x.film(0, 0, 20));
  }
}
