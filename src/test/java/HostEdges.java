/** Boundary cases of promises 33 to 37: the host. */
final class HostEdges {
  private HostEdges() {}

  private static DreamWindows one() {
    DreamWindows x = new DreamWindows();
    x.sleeper(0, 0x00f1, 5);
    return x;
  }

  private static void numbers(String what, DreamWindows x, int q, int sort, int... due) {
    for (int i = 0; i < due.length; i++) {
      Check.due(what + ", number " + i, Check.bits(x, q, sort, i), due[i]);
    }
    Check.due(what + ", no more", x.copy(q, due.length, q, 0, 1), -12);
  }

  // ---- 33

  @Edge("SHEETS 0 .. 3 are rows of numbers, or missing (as all are at first):")
  static void promise33MissingAtFirst() {
    DreamWindows x = one();
    for (int q = 0; q < 4; q++) {
      Check.due("sheet " + q, x.cell(q, 0, 1), -11);
    }
  }

  @Edge("of sort 0 bytes, 1 shorts, 2 ints, 40 at most.")
  static void promise33FromNoneTo40() {
    DreamWindows x = one();
    for (int sort = 0; sort < 3; sort++) {
      Check.due("40 of " + sort, x.sheet(0, sort, 40), 1);
      Check.due("the first of " + sort, x.cell(0, 0, 1), 1);
      Check.due("the last of " + sort, x.cell(0, 39, 1), 1);
      Check.due("no more of " + sort, x.cell(0, 40, 1), -12);
      Check.due("none of " + sort, x.sheet(3, sort, 0), 1);
      Check.due("not even the first of " + sort, x.cell(3, 0, 1), -12);
    }
  }

  @Edge("A SHEET becomes a row of n of a sort, all 0,")
  static void promise33All0AgainWhateverItWas() {
    DreamWindows x = one();
    for (int sort = 0; sort < 3; sort++) {
      Check.sheet(x, 0, sort, 7, 8, 9);
      x.sheet(0, sort, 3);
      numbers("of sort " + sort, x, 0, sort, 0, 0, 0);
    }
    Check.sheet(x, 0, 2, 7, 8, 9);
    x.sheet(0, 2, 2);
    x.sheet(0, 2, 3);
    numbers("shorter, then longer", x, 0, 2, 0, 0, 0);
  }

  @Edge("or missing (sort -1: n does not matter): 1.")
  static void promise33MissingWhateverNIs() {
    DreamWindows x = one();
    for (int n : new int[] {0, 1, 40, 41, -1, Integer.MAX_VALUE, Integer.MIN_VALUE}) {
      x.sheet(0, 2, 5);
      Check.due("n " + n, x.sheet(0, -1, n), 1);
      Check.due("missing by " + n, x.cell(0, 0, 1), -11);
    }
  }

  @Edge("BAD: SHEET, sort, n above 40;")
  static void promise33BadSheet() {
    DreamWindows x = one();
    for (int q : Check.outside(0, 3)) {
      for (int sort = -1; sort < 3; sort++) {
        Check.due("sheet " + q + " of sort " + sort, x.sheet(q, sort, 1), -2);
      }
    }
    Check.due("0 is one", x.sheet(0, 0, 1), 1);
    Check.due("3 is one", x.sheet(3, 0, 1), 1);
  }

  @Edge("BAD: SHEET, sort, n above 40;")
  static void promise33BadSort() {
    DreamWindows x = one();
    for (int sort : Check.outside(-1, 2)) {
      Check.due("sort " + sort, x.sheet(0, sort, 1), -2);
      Check.due("nothing came by " + sort, x.cell(0, 0, 1), -11);
    }
  }

  @Edge("BAD: SHEET, sort, n above 40;")
  static void promise33BadNAbove40() {
    DreamWindows x = one();
    for (int sort = 0; sort < 3; sort++) {
      Check.due("41 of sort " + sort, x.sheet(0, sort, 41), -2);
      Check.due("far above of sort " + sort, x.sheet(0, sort, Integer.MAX_VALUE), -2);
    }
    Check.due("nothing came", x.cell(0, 0, 1), -11);
  }

  @Edge({"-14.", "-14 a size below 0."})
  static void promise33ASizeBelow0() {
    DreamWindows x = one();
    for (int sort = 0; sort < 3; sort++) {
      Check.due("-1 of sort " + sort, x.sheet(0, sort, -1), -14);
      Check.due("far below of sort " + sort, x.sheet(0, sort, Integer.MIN_VALUE), -14);
    }
    Check.due("nothing came", x.cell(0, 0, 1), -11);
  }

  @Edge("BAD: SHEET, sort, n above 40; -14.")
  static void promise33BadAheadOfASizeBelow0() {
    DreamWindows x = one();
    Check.due("SHEET", x.sheet(4, 0, -1), -2);
    Check.due("sort", x.sheet(0, 3, -1), -2);
    Check.due("sort below", x.sheet(0, -2, -1), -2);
    Check.due("neither", x.sheet(0, 0, -1), -14);
  }

  @Edge("They change nothing, but where it is told.")
  static void promise33TheSheetStaysBehindARefusal() {
    DreamWindows x = one();
    Check.sheet(x, 0, 1, 7, 8);
    x.sheet(0, 1, 41);
    x.sheet(0, 1, -1);
    x.sheet(0, 3, 1);
    x.sheet(0, -2, 1);
    numbers("stays", x, 0, 1, 7, 8);
  }

  // ---- 34

  @Edge("Number i of a SHEET becomes v (of bytes, shorts its lowest 8, 16 bits): 1.")
  static void promise34TheFirstAndTheLast() {
    DreamWindows x = one();
    for (int sort = 0; sort < 3; sort++) {
      x.sheet(0, sort, 4);
      Check.due("the first of " + sort, x.cell(0, 0, 11), 1);
      Check.due("the last of " + sort, x.cell(0, 3, 12), 1);
      numbers("of sort " + sort, x, 0, sort, 11, 0, 0, 12);
    }
  }

  @Edge("(of bytes, shorts its lowest 8, 16 bits)")
  static void promise34OfBytesTheLowest8Bits() {
    DreamWindows x = one();
    Check.sheet(x, 0, 0, 127, 256, 257, 0x12345678, Integer.MIN_VALUE, 0x7fffff00);
    numbers("bytes", x, 0, 0, 127, 0, 1, 0x78, 0, 0);
    for (int v : new int[] {128, 200, 255, 0x1ff, -1, -128}) {
      x.cell(0, 0, v);
      Check.due("lowest 8 bits of " + v, Check.bits(x, 0, 0, 0) & 255, v & 255);
    }
    x.put(0, 16, 0x7f);
    Check.sheet(x, 0, 0, 0x100 | 0x7f);
    Check.due("as a byte it is right", x.judge(0, 0), -1);
  }

  @Edge("(of bytes, shorts its lowest 8, 16 bits)")
  static void promise34OfShortsTheLowest16Bits() {
    DreamWindows x = one();
    Check.sheet(x, 0, 1, 128, 255, 256, 32767, 65536, 65537, 0x12345678, Integer.MIN_VALUE);
    numbers("shorts", x, 0, 1, 128, 255, 256, 32767, 0, 1, 0x5678, 0);
    for (int v : new int[] {32768, 40000, 65535, 0x1ffff, -1, -32768}) {
      x.cell(0, 0, v);
      Check.due("lowest 16 bits of " + v, Check.bits(x, 0, 1, 0), v & 65535);
    }
    x.put(0, 16, 0x7fff);
    Check.sheet(x, 0, 1, 0x10000 | 0x7fff);
    Check.due("as a short it is right", x.judge(0, 0), -1);
  }

  @Edge("Number i of a SHEET becomes v")
  static void promise34OfIntsAllBits() {
    DreamWindows x = one();
    x.put(0, 16, 0xffff);
    Check.tell(x, 0, 0xffff);
    Check.due("16 bits", x.judge(0, 0), -1);
    for (int bit = 16; bit < 32; bit++) {
      x.cell(0, 0, 0xffff | 1 << bit);
      Check.due("bit " + bit, x.judge(0, 0), 0);
    }
  }

  @Edge("BAD: SHEET;")
  static void promise34BadSheet() {
    DreamWindows x = one();
    x.sheet(0, 0, 1);
    x.sheet(3, 0, 1);
    for (int q : Check.outside(0, 3)) {
      Check.due("sheet " + q, x.cell(q, 0, 1), -2);
    }
    Check.due("0 is one", x.cell(0, 0, 1), 1);
    Check.due("3 is one", x.cell(3, 0, 1), 1);
  }

  @Edge({"-11;", "-11 nothing there,"})
  static void promise34MissingSheet() {
    DreamWindows x = one();
    Check.due("at first", x.cell(0, 0, 1), -11);
    x.sheet(0, 0, 1);
    x.sheet(0, -1, 1);
    Check.due("again", x.cell(0, 0, 1), -11);
  }

  @Edge({"-12.", "-12 a place outside,"})
  static void promise34PlaceOutside() {
    DreamWindows x = one();
    for (int sort = 0; sort < 3; sort++) {
      Check.sheet(x, 0, sort, 7, 8, 9);
      for (int i : Check.outside(0, 2)) {
        Check.due("place " + i + " of sort " + sort, x.cell(0, i, 1), -12);
      }
      numbers("stays", x, 0, sort, 7, 8, 9);
    }
  }

  @Edge("BAD: SHEET; -11; -12.")
  static void promise34OfSeveralTheFirst() {
    DreamWindows x = one();
    Check.due("SHEET and place", x.cell(4, -1, 1), -2);
    Check.due("missing and place", x.cell(0, -1, 1), -11);
    x.sheet(0, 0, 0);
    Check.due("place", x.cell(0, 0, 1), -12);
  }

  // ---- 35

  @Edge("n numbers of a SHEET, from i on, come to another one's (or its own) place j (as they were): n.")
  static void promise35NoneAndAll() {
    DreamWindows x = one();
    Check.tell(x, 0, 1, 2, 3);
    Check.tell(x, 1, 7, 8, 9);
    Check.due("none", x.copy(0, 0, 1, 0, 0), 0);
    Check.due("none from the end to the end", x.copy(0, 3, 1, 3, 0), 0);
    numbers("as it was", x, 1, 2, 7, 8, 9);
    Check.due("the last to the first", x.copy(0, 2, 1, 0, 1), 1);
    Check.due("the first to the last", x.copy(0, 0, 1, 2, 1), 1);
    numbers("both ends", x, 1, 2, 3, 8, 1);
    Check.due("all", x.copy(0, 0, 1, 0, 3), 3);
    numbers("all", x, 1, 2, 1, 2, 3);
    numbers("the one stays", x, 0, 2, 1, 2, 3);
  }

  @Edge("n numbers of a SHEET, from i on, come to another one's (or its own) place j (as they were): n.")
  static void promise35AllForty() {
    DreamWindows x = one();
    for (int sort = 0; sort < 3; sort++) {
      x.sheet(0, sort, 40);
      x.sheet(1, sort, 40);
      x.cell(0, 0, 5);
      x.cell(0, 39, 6);
      Check.due("40 of sort " + sort, x.copy(0, 0, 1, 0, 40), 40);
      Check.due("the first of sort " + sort, Check.bits(x, 1, sort, 0), 5);
      Check.due("the last of sort " + sort, Check.bits(x, 1, sort, 39), 6);
    }
  }

  @Edge("(or its own) place j (as they were): n.")
  static void promise35ItsOwnAsTheyWere() {
    DreamWindows x = one();
    Check.tell(x, 0, 1, 2, 3, 4);
    Check.due("up", x.copy(0, 0, 0, 1, 3), 3);
    numbers("up", x, 0, 2, 1, 1, 2, 3);
    Check.tell(x, 0, 1, 2, 3, 4);
    Check.due("down", x.copy(0, 1, 0, 0, 3), 3);
    numbers("down", x, 0, 2, 2, 3, 4, 4);
    Check.due("on itself", x.copy(0, 0, 0, 0, 4), 4);
    numbers("on itself", x, 0, 2, 2, 3, 4, 4);
  }

  @Edge("BAD: SHEETS;")
  static void promise35BadSheets() {
    DreamWindows x = one();
    for (int q = 0; q < 4; q++) {
      x.sheet(q, 0, 1);
    }
    for (int q : Check.outside(0, 3)) {
      Check.due("the one " + q, x.copy(q, 0, 0, 0, 1), -2);
      Check.due("the other one " + q, x.copy(0, 0, q, 0, 1), -2);
    }
    Check.due("0 and 3 are", x.copy(0, 0, 3, 0, 1), 1);
    Check.due("3 and 0 are", x.copy(3, 0, 0, 0, 1), 1);
  }

  @Edge("-11;")
  static void promise35EitherIsMissing() {
    DreamWindows x = one();
    Check.due("both", x.copy(0, 0, 1, 0, 1), -11);
    x.sheet(0, 0, 1);
    Check.due("the other", x.copy(0, 0, 1, 0, 1), -11);
    Check.due("the one", x.copy(1, 0, 0, 0, 1), -11);
    Check.due("of none, too", x.copy(1, 0, 0, 0, 0), -11);
    Check.due("its own", x.copy(2, 0, 2, 0, 1), -11);
  }

  @Edge({"-13: unlike sorts;", "-13 of another sort or KIND,"})
  static void promise35UnlikeSorts() {
    DreamWindows x = one();
    for (int one = 0; one < 3; one++) {
      for (int other = 0; other < 3; other++) {
        Check.sheet(x, 0, one, 7, 8);
        Check.sheet(x, 1, other, 5, 6);
        Check.due(one + " to " + other, x.copy(0, 0, 1, 0, 2), one == other ? 2 : -13);
        Check.due("none of " + one + " to " + other, x.copy(0, 0, 1, 0, 0), one == other ? 0 : -13);
        numbers(one + " to " + other, x, 1, other, one == other ? 7 : 5, one == other ? 8 : 6);
      }
    }
  }

  @Edge("-12 (n below 0, too).")
  static void promise35PlacesOutside() {
    DreamWindows x = one();
    Check.tell(x, 0, 1, 2, 3, 4, 5);
    Check.tell(x, 1, 7, 8, 9);
    int[][] outside = {
      {-1, 0, 1}, {0, -1, 1}, {5, 0, 1}, {0, 3, 1}, {4, 0, 2}, {0, 2, 2}, {3, 0, 3}, {0, 1, 3}, {0, 0, 4}
    };
    for (int[] o : outside) {
      Check.due("from " + o[0] + " to " + o[1] + ", " + o[2], x.copy(0, o[0], 1, o[1], o[2]), -12);
    }
    numbers("nothing came", x, 1, 2, 7, 8, 9);
    Check.due("just so", x.copy(0, 2, 1, 0, 3), 3);
  }

  @Edge("-12 (n below 0, too).")
  static void promise35PlacesFarOutside() {
    DreamWindows x = one();
    x.sheet(0, 2, 5);
    x.sheet(1, 2, 5);
    int most = Integer.MAX_VALUE;
    int least = Integer.MIN_VALUE;
    int[][] outside = {
      {most, 0, 1}, {0, most, 1}, {0, 0, most}, {1, 0, most}, {0, 1, most}, {1, 1, most}, {5, 5, most},
      {most, most, most}, {least, 0, 1}, {0, least, 1}, {most, 0, 2}, {0, most, 2}, {most, most, 2}, {-1, -1, most},
      {-1, 0, most}
    };
    for (int[] o : outside) {
      Check.due("from " + o[0] + " to " + o[1] + ", " + o[2], x.copy(0, o[0], 1, o[1], o[2]), -12);
    }
  }

  @Edge("-12 (n below 0, too).")
  static void promise35PlacesOutsideThoughNoneCome() {
    DreamWindows x = one();
    x.sheet(0, 2, 5);
    x.sheet(1, 2, 3);
    for (int i : Check.outside(0, 5)) {
      Check.due("none from " + i, x.copy(0, i, 1, 0, 0), -12);
    }
    for (int j : Check.outside(0, 3)) {
      Check.due("none to " + j, x.copy(0, 0, 1, j, 0), -12);
    }
    Check.due("none behind the last ones", x.copy(0, 5, 1, 3, 0), 0);
  }

  @Edge("-12 (n below 0, too).")
  static void promise35NBelow0() {
    DreamWindows x = one();
    Check.tell(x, 0, 1, 2, 3);
    for (int n : new int[] {-1, -2, Integer.MIN_VALUE}) {
      Check.due("n " + n, x.copy(0, 0, 0, 0, n), -12);
      Check.due("n " + n + " farther on", x.copy(0, 2, 0, 1, n), -12);
    }
    numbers("as they were", x, 0, 2, 1, 2, 3);
  }

  @Edge("BAD: SHEETS; -11; -13: unlike sorts; -12 (n below 0, too).")
  static void promise35OfSeveralTheFirst() {
    DreamWindows x = one();
    x.sheet(0, 0, 1);
    Check.due("SHEETS and missing", x.copy(4, 0, 1, 0, -1), -2);
    Check.due("missing and SHEETS", x.copy(1, 0, 4, 0, -1), -2);
    Check.due("missing and place", x.copy(0, 0, 1, 0, -1), -11);
    x.sheet(1, 1, 1);
    Check.due("sorts and place", x.copy(0, 9, 1, 9, 1), -13);
    Check.due("sorts and n", x.copy(0, 0, 1, 0, -1), -13);
  }

  // ---- 36

  @Edge("n of them (0 .. 6): how many came (others are left out).")
  static void promise36NoneAndSix() {
    DreamWindows x = new DreamWindows();
    x.sheet(0, 0, 18);
    x.cell(0, 15, 59);
    x.cell(0, 16, 127);
    x.cell(0, 17, 99);
    Check.due("none", x.sleepersBy(0, 0, 0, 0), 0);
    Check.due("nobody", x.count(0), 0);
    Check.due("six", x.sleepersBy(0, 0, 0, 6), 6);
    Check.due("six are there", x.count(0), 6);
    Check.due("the last one's KIND", x.told(5, 17), 5);
    Check.due("the last one's MORE", x.told(5, 18), 9);
    Check.due("the last one's PICTURE", x.told(5, 16), 127);
    Check.due("how DULL the last one is", x.told(5, 19), 1584);
    Check.due("how DULL the first one is", x.told(0, 19), 0);
  }

  @Edge("how many came (others are left out).")
  static void promise36WhoIsBadIsLeftOut() {
    DreamWindows x = new DreamWindows();
    Check.tell(x, 0, 60, 0, 0, 1, 65536, 0, 2, 0, 100, -1, 0, 0, 3, -1, 0, 4, 0, -1);
    Check.due("all are bad", x.sleepersBy(0, 2, 0, 6), 0);
    Check.due("nobody", x.count(0), 0);
    Check.tell(x, 0, 60, 0, 0, 11, 65535, 99, 12, 0, 100, 0, 0, 0);
    Check.due("two of four", x.sleepersBy(0, 2, 0, 4), 2);
    Check.due("the first", x.told(0, 16), 65535);
    Check.due("the second", x.told(1, 19), 0);
  }

  @Edge("how many came (others are left out).")
  static void promise36WhoFindsNoRoomIsLeftOut() {
    DreamWindows x = new DreamWindows();
    for (int s = 0; s < 4; s++) {
      x.sleeper(0, 0, 0);
    }
    Check.tell(x, 0, 10, 1, 1, 20, 2, 2, 30, 3, 3);
    Check.due("two of three", x.sleepersBy(0, 2, 0, 3), 2);
    Check.due("the fifth", x.told(4, 17), 1);
    Check.due("the sixth", x.told(5, 17), 2);
    Check.unchanged(x, () -> Check.due("none of three", x.sleepersBy(0, 2, 0, 3), 0));
  }

  @Edge("SLEEPERS by a SHEET of a sort: from a place on, three by three (as of sleeper()),")
  static void promise36ByEachSortFromEachPlace() {
    for (int sort = 0; sort < 3; sort++) {
      DreamWindows x = new DreamWindows();
      Check.sheet(x, 3, sort, 9, 11, 100, 7, 22, 99);
      Check.due("from 1", x.sleepersBy(3, sort, 1, 1), 1);
      Check.due("KIND", x.told(0, 17), 1);
      Check.due("PICTURE", x.told(0, 16), 100);
      Check.due("DULL", x.told(0, 0), 7);
      Check.due("the last three", x.sleepersBy(3, sort, 3, 1), 1);
      Check.due("MORE", x.told(1, 18), 7);
    }
  }

  @Edge("BAD: SHEET, sort, n;")
  static void promise36BadSheet() {
    DreamWindows x = new DreamWindows();
    x.sheet(0, 2, 3);
    x.sheet(3, 2, 3);
    for (int q : Check.outside(0, 3)) {
      Check.due("sheet " + q, x.sleepersBy(q, 2, 0, 1), -2);
    }
    Check.due("nobody came", x.count(0), 0);
    Check.due("0 is one", x.sleepersBy(0, 2, 0, 1), 1);
    Check.due("3 is one", x.sleepersBy(3, 2, 0, 1), 1);
  }

  @Edge("BAD: SHEET, sort, n;")
  static void promise36BadSort() {
    DreamWindows x = new DreamWindows();
    x.sheet(0, 2, 3);
    for (int sort : Check.outside(0, 2)) {
      Check.due("sort " + sort, x.sleepersBy(0, sort, 0, 1), -2);
      Check.due("sort " + sort + " of a missing one", x.sleepersBy(1, sort, 0, 1), -2);
    }
    Check.due("nobody came", x.count(0), 0);
  }

  @Edge("BAD: SHEET, sort, n;")
  static void promise36BadN() {
    DreamWindows x = new DreamWindows();
    x.sheet(0, 2, 40);
    for (int n : Check.outside(0, 6)) {
      Check.due("n " + n, x.sleepersBy(0, 2, 0, n), -2);
    }
    Check.due("nobody came", x.count(0), 0);
  }

  @Edge("-11;")
  static void promise36MissingSheet() {
    DreamWindows x = new DreamWindows();
    for (int sort = 0; sort < 3; sort++) {
      Check.due("at first, sort " + sort, x.sleepersBy(0, sort, 0, 1), -11);
      Check.due("none of it, sort " + sort, x.sleepersBy(0, sort, 0, 0), -11);
    }
    x.sheet(0, 2, 3);
    x.sheet(0, -1, 3);
    Check.due("again", x.sleepersBy(0, 2, 0, 1), -11);
  }

  @Edge("-13;")
  static void promise36AnotherSort() {
    DreamWindows x = new DreamWindows();
    for (int is = 0; is < 3; is++) {
      x.sheet(0, is, 3);
      for (int sort = 0; sort < 3; sort++) {
        Check.due("of " + is + " by " + sort, x.sleepersBy(0, sort, 0, 0), is == sort ? 0 : -13);
        Check.due("one of " + is + " by " + sort, x.sleepersBy(0, sort, 0, 1), is == sort ? 1 : -13);
      }
    }
    Check.due("three came", x.count(0), 3);
  }

  @Edge("-12: what stood ahead came.")
  static void promise36WhatStoodAheadCame() {
    DreamWindows x = new DreamWindows();
    Check.tell(x, 0, 10, 1, 1, 20, 2, 2, 30, 3);
    Check.due("the third is not whole", x.sleepersBy(0, 2, 0, 3), -12);
    Check.due("two came", x.count(0), 2);
    Check.due("the second", x.told(1, 17), 2);
    Check.due("four of two more", x.sleepersBy(0, 2, 0, 4), -12);
    Check.due("four came", x.count(0), 4);
  }

  @Edge("-12: what stood ahead came.")
  static void promise36NothingStoodAhead() {
    DreamWindows x = new DreamWindows();
    x.sheet(0, 2, 3);
    int most = Integer.MAX_VALUE;
    int least = Integer.MIN_VALUE;
    for (int from : new int[] {-1, -2, -3, 1, 2, 3, 4, 40, most, most - 1, most - 2, least, least + 2}) {
      Check.due("from " + from, x.sleepersBy(0, 2, from, 6), -12);
      Check.due("one from " + from, x.sleepersBy(0, 2, from, 1), -12);
    }
    x.sheet(0, 2, 0);
    Check.due("from an empty one", x.sleepersBy(0, 2, 0, 1), -12);
    Check.due("nobody came", x.count(0), 0);
  }

  @Edge("-12: what stood ahead came.")
  static void promise36OutsideThoughNobodyHasRoom() {
    DreamWindows x = new DreamWindows();
    for (int s = 0; s < 6; s++) {
      x.sleeper(0, 0, 0);
    }
    x.sheet(0, 2, 3);
    Check.unchanged(x, () -> Check.due("two of one", x.sleepersBy(0, 2, 0, 2), -12));
  }

  @Edge("BAD: SHEET, sort, n; -11; -13; -12: what stood ahead came.")
  static void promise36OfSeveralTheFirst() {
    DreamWindows x = new DreamWindows();
    Check.due("n and missing", x.sleepersBy(0, 0, 0, 7), -2);
    Check.due("missing and place", x.sleepersBy(0, 0, -1, 1), -11);
    x.sheet(0, 0, 3);
    Check.due("sort, n and place", x.sleepersBy(0, 1, -1, 7), -2);
    Check.due("sort and place", x.sleepersBy(0, 1, -1, 1), -13);
    Check.due("place", x.sleepersBy(0, 0, -1, 1), -12);
  }

  // ---- 37

  private static DreamWindows six() {
    DreamWindows x = new DreamWindows();
    for (int kind = 0; kind < 6; kind++) {
      x.sleeper(10 * kind, 65535 - kind, 0);
    }
    return x;
  }

  @Edge({"What lies at place i: 0 .. 5 SLEEPERS, 6 .. 11 their PICTURES,", "6 a PICTURE: its bits."})
  static void promise37TheFirstAndTheLastOfBoth() {
    DreamWindows x = six();
    Check.due("the first SLEEPER", x.taken(0, 0), 0);
    Check.due("the last SLEEPER", x.taken(5, 0), 5);
    Check.due("the first PICTURE", x.taken(6, 6), 65535);
    Check.due("the last PICTURE", x.taken(11, 6), 65530);
    x.put(0, 16, 0);
    Check.due("a PICTURE of nothing", x.taken(6, 6), 0);
  }

  @Edge("taken for 0 .. 5 a SLEEPER of that KIND (also of one that is one): the number;")
  static void promise37OfEachKindForEach() {
    DreamWindows x = six();
    int[] due = {1, 1 | 2, 1 | 4, 1 | 2 | 8, 1 | 4 | 16, 1 | 32};
    for (int i = 0; i < 6; i++) {
      for (int kind = 0; kind < 6; kind++) {
        Check.due("KIND " + i + " for " + kind, x.taken(i, kind), (due[i] >> kind & 1) == 1 ? i : -13);
      }
    }
  }

  @Edge("-13.")
  static void promise37APictureForASleeperAndTheOtherWay() {
    DreamWindows x = six();
    for (int i = 0; i < 6; i++) {
      Check.due("SLEEPER " + i + " for a PICTURE", x.taken(i, 6), -13);
      for (int kind = 0; kind < 6; kind++) {
        Check.due("PICTURE " + i + " for a " + kind, x.taken(i + 6, kind), -13);
      }
    }
  }

  @Edge("BAD: kind;")
  static void promise37BadKind() {
    DreamWindows x = six();
    for (int kind : Check.outside(0, 6)) {
      Check.due("a SLEEPER for " + kind, x.taken(0, kind), -2);
      Check.due("a PICTURE for " + kind, x.taken(6, kind), -2);
    }
  }

  @Edge("-12: i;")
  static void promise37PlaceOutside() {
    DreamWindows x = six();
    for (int i : Check.outside(0, 11)) {
      for (int kind = 0; kind <= 6; kind++) {
        Check.due("place " + i + " for " + kind, x.taken(i, kind), -12);
      }
    }
  }

  @Edge("-11: no such SLEEPER;")
  static void promise37NoSuchSleeper() {
    DreamWindows x = new DreamWindows();
    Check.due("nobody is there", x.taken(0, 0), -11);
    Check.due("nor a PICTURE", x.taken(6, 6), -11);
    x.sleeper(0, 7, 0);
    x.sleeper(0, 8, 0);
    for (int s = 2; s < 6; s++) {
      Check.due("SLEEPER " + s, x.taken(s, 0), -11);
      Check.due("PICTURE of " + s, x.taken(s + 6, 6), -11);
    }
    Check.due("the last SLEEPER", x.taken(1, 0), 1);
    Check.due("the last PICTURE", x.taken(7, 6), 8);
  }

  @Edge("BAD: kind; -12: i; -11: no such SLEEPER; -13.")
  static void promise37OfSeveralTheFirst() {
    DreamWindows x = new DreamWindows();
    Check.due("kind and place", x.taken(12, 7), -2);
    Check.due("kind and SLEEPER", x.taken(0, 7), -2);
    Check.due("SLEEPER and KIND", x.taken(0, 6), -11);
    Check.due("SLEEPER and KIND of a PICTURE", x.taken(6, 0), -11);
    Check.due("place", x.taken(12, 6), -12);
  }
}
