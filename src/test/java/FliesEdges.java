/** Boundary cases of promises 29 to 32: flies by lots, images. */
final class FliesEdges {
  private FliesEdges() {}

  private static DreamWindows sleepers(int many, int picture, int dullness) {
    DreamWindows x = new DreamWindows();
    for (int s = 0; s < many; s++) {
      x.sleeper(0, picture, dullness);
    }
    return x;
  }

  /** The last of so many FLIES by a SEED sits on a CELL that none sat on before; all CELLS in a row. */
  private static void lastOn(int seed, int flies, int many, int at) {
    DreamWindows x = sleepers(many, 0, 10);
    x.put(at / 16, 16, 1 << at % 16);
    Check.due("seed " + seed + ", " + many + " sleepers, ahead of fly " + flies, x.drawn(seed, flies - 1), 1);
    Check.due("seed " + seed + ", " + many + " sleepers, fly " + flies + " on " + at, x.drawn(seed, flies), 0);
  }

  // ---- 29

  @Edge("FLIES by a SEED: how many CELLS are SEEN by all, together.")
  static void promise29NoSleepers() {
    DreamWindows x = new DreamWindows();
    Check.due("no flies", x.drawn(0, 0), 0);
    Check.due("one", x.drawn(0, 1), 0);
    Check.due("99", x.drawn(99999, 99), 0);
  }

  @Edge("BAD: SEED, flies (0 .. 99).")
  static void promise29NoFlies() {
    Check.due("of 6", sleepers(6, 65535, 10).drawn(0, 0), 96);
    Check.due("of 1", sleepers(1, 1, 10).drawn(99999, 0), 1);
    Check.due("nothing behind", sleepers(6, 0, 10).drawn(0, 0), 0);
    Check.due("too dull", sleepers(6, 65535, 11).drawn(0, 0), 0);
  }

  @Edge("BAD: SEED, flies (0 .. 99).")
  static void promise29NinetyNineFlies() {
    lastOn(0, 99, 6, 64);
    lastOn(1, 99, 6, 1);
    Check.due("on all of one", sleepers(1, 65535, 10).drawn(0, 99), 0);
  }

  @Edge("FLIES by a SEED (0 .. 99999), so many, in thought:")
  static void promise29FromSeed0ToSeed99999() {
    lastOn(0, 1, 1, 15);
    lastOn(0, 2, 1, 2);
    lastOn(99999, 1, 1, 2);
    lastOn(99999, 2, 1, 7);
  }

  @Edge("CELL LOT modulo (16 times how many SLEEPERS there are) of all CELLS in a row (SLEEPER by SLEEPER)")
  static void promise29OfOneToSixSleepers() {
    int[] first = {2, 2, 2, 34, 66, 2};
    int[] second = {7, 23, 23, 55, 39, 23};
    int[] ofSeed0 = {15, 15, 31, 15, 31, 79};
    for (int many = 1; many <= 6; many++) {
      lastOn(99999, 1, many, first[many - 1]);
      lastOn(99999, 2, many, second[many - 1]);
      lastOn(0, 1, many, ofSeed0[many - 1]);
    }
  }

  // 100000 times 48271 is more than 32 bits hold, and 532132706 times 48271 more than 44.
  @Edge({"LOTS: the first is (SEED and 1) times 48271 modulo 2147483647,",
      "each further one the last times 48271 modulo 2147483647."})
  static void promise29LotsDoNotWrap() {
    lastOn(99999, 1, 6, 2);
    lastOn(99999, 2, 6, 23);
    lastOn(99999, 3, 6, 39);
    lastOn(1, 3, 6, 77);
  }

  @Edge("is 20 DULLER (99 at most).")
  static void promise29TwentyDullerAnd99AtMost() {
    DreamWindows x = Check.by("dulls 0;limit 20;costs 0;");
    x.sleeper(0, 1 << 15, 0);
    Check.due("0 and 20", x.drawn(0, 1), 1);
    x.put(0, 15, 1);
    Check.due("1 and 20", x.drawn(0, 1), 0);
    Check.rule(x, "dulls 0;limit 99;costs 0;");
    for (int dull : new int[] {79, 80, 98, 99}) {
      x.put(0, 15, dull);
      Check.due(dull + " and 20", x.drawn(0, 1), 1);
      Check.due(dull + " and 20, often", x.drawn(0, 99), 1);
    }
    Check.rule(x, "dulls 0;limit 98;costs 0;");
    x.put(0, 15, 78);
    Check.due("78 and 20 of 98", x.drawn(0, 1), 1);
    x.put(0, 15, 79);
    Check.due("79 and 20 of 98", x.drawn(0, 1), 0);
  }

  @Edge("BAD: SEED, flies (0 .. 99).")
  static void promise29BadSeed() {
    for (int many = 0; many < 2; many++) {
      DreamWindows x = sleepers(many, 65535, 0);
      for (int seed : Check.outside(0, 99999)) {
        Check.due("seed " + seed + " of " + many, x.drawn(seed, 0), -2);
      }
    }
  }

  @Edge("BAD: SEED, flies (0 .. 99).")
  static void promise29BadFlies() {
    for (int many = 0; many < 2; many++) {
      DreamWindows x = sleepers(many, 65535, 0);
      for (int flies : Check.outside(0, 99)) {
        Check.due("flies " + flies + " of " + many, x.drawn(0, flies), -2);
      }
    }
  }

  @Edge("What is asked changes nothing, but where it is told.")
  static void promise29InThoughtOnly() {
    DreamWindows x = sleepers(2, 65535, 10);
    Check.unchanged(x, () -> {
      x.drawn(0, 99);
      x.odds(0, 40, 99, 0, 0);
    });
    Check.due("again", x.drawn(0, 1), 31);
    Check.due("and again", x.drawn(0, 1), 31);
  }

  // ---- 30

  private static void odds(String what, DreamWindows x, int seed, int seeds, int flies, int many, int... due) {
    Check.due(what + ", above", x.odds(seed, seeds, flies, many, 0), due[0]);
    Check.due(what + ", below", x.odds(seed, seeds, flies, many, 1), due[1]);
  }

  @Edge("these are many (0 .. 96) or more: part 0 above, 1 below the line, in lowest terms.")
  static void promise30NoneAndAllOfThem() {
    DreamWindows x = sleepers(1, 65535, 10);
    odds("16 or more", x, 5, 40, 0, 16, 1, 1);
    odds("17 or more", x, 5, 40, 0, 17, 0, 1);
    odds("of one seed", x, 5, 1, 0, 16, 1, 1);
    odds("none of one seed", x, 5, 1, 0, 17, 0, 1);
  }

  @Edge("these are many (0 .. 96) or more:")
  static void promise30ManyOf0AndOf96() {
    DreamWindows x = sleepers(6, 65535, 10);
    odds("96", x, 0, 40, 0, 96, 1, 1);
    odds("96, a fly", x, 0, 40, 1, 96, 0, 1);
    odds("95, a fly", x, 0, 40, 1, 95, 1, 1);
    odds("0, 99 flies", x, 0, 40, 99, 0, 1, 1);
    odds("0, nobody", new DreamWindows(), 0, 40, 99, 0, 1, 1);
    odds("1, nobody", new DreamWindows(), 0, 40, 99, 1, 0, 1);
  }

  // The first LOTS of SEEDS 0, 1, .. are, modulo 16, 15, 14, .. 0, 15, ..
  @Edge("By how many of so many (1 .. 40) seeds, SEED and each 1 more")
  static void promise30OneSeedAndFortySeeds() {
    DreamWindows x = sleepers(1, 1 << 15, 10);
    odds("the first", x, 0, 1, 1, 1, 0, 1);
    odds("the second", x, 1, 1, 1, 1, 1, 1);
    odds("40 with the first", x, 0, 40, 1, 1, 37, 40);
    odds("33 with the last", x, 0, 33, 1, 1, 10, 11);
    odds("32", x, 0, 32, 1, 1, 15, 16);
    odds("31", x, 0, 31, 1, 1, 29, 31);
  }

  @Edge("(they may pass 99999)")
  static void promise30SeedsPast99999() {
    DreamWindows x = sleepers(1, 1 << 1, 10);
    // The first LOT of SEED 100000 is, modulo 16, 1; of SEED 100038 11.
    odds("99999", x, 99999, 1, 1, 1, 1, 1);
    odds("and 100000", x, 99999, 2, 1, 1, 1, 2);
    x.put(0, 16, 1 << 11);
    odds("39 seeds", x, 99999, 39, 1, 1, 37, 39);
    odds("40 seeds", x, 99999, 40, 1, 1, 37, 40);
  }

  @Edge("in lowest terms.")
  static void promise30LowestTerms() {
    DreamWindows x = sleepers(1, 0xf000, 10);
    // By SEEDS 0 to 3 the fly sits on one of the four, by 4 to 15 on none.
    odds("4 of 8", x, 0, 8, 1, 4, 1, 2);
    odds("12 of 16", x, 0, 16, 1, 4, 3, 4);
    odds("6 of 10", x, 0, 10, 1, 4, 3, 5);
    odds("3 of 7", x, 0, 7, 1, 4, 3, 7);
    odds("24 of 32", x, 0, 32, 1, 4, 3, 4);
    odds("0 of 4", x, 0, 4, 1, 4, 0, 1);
    odds("12 of 12", x, 4, 12, 1, 4, 1, 1);
    odds("28 of 40", x, 0, 40, 1, 4, 7, 10);
  }

  @Edge("NO: none such.")
  static void promise30NoSuchSeed() {
    DreamWindows x = sleepers(1, 65535, 10);
    for (int seed : Check.outside(0, 99999)) {
      Check.due("seed " + seed + ", above", x.odds(seed, 1, 0, 0, 0), -4611686018427387904L);
      Check.due("seed " + seed + ", below", x.odds(seed, 1, 0, 0, 1), -4611686018427387904L);
    }
    odds("0 is one", x, 0, 1, 0, 0, 1, 1);
    odds("99999 is one", x, 99999, 1, 0, 0, 1, 1);
  }

  @Edge("NO: none such.")
  static void promise30NoSuchSeeds() {
    DreamWindows x = sleepers(1, 65535, 10);
    for (int seeds : Check.outside(1, 40)) {
      Check.due("seeds " + seeds, x.odds(0, seeds, 0, 0, 0), DreamWindows.NO);
      Check.due("seeds " + seeds + ", nobody", new DreamWindows().odds(0, seeds, 0, 0, 1), DreamWindows.NO);
    }
  }

  @Edge("NO: none such.")
  static void promise30NoSuchFlies() {
    DreamWindows x = sleepers(1, 65535, 10);
    for (int flies : Check.outside(0, 99)) {
      Check.due("flies " + flies, x.odds(0, 1, flies, 0, 0), DreamWindows.NO);
    }
    odds("99 are", x, 0, 1, 99, 0, 1, 1);
  }

  @Edge("NO: none such.")
  static void promise30NoSuchMany() {
    DreamWindows x = sleepers(1, 65535, 10);
    for (int many : Check.outside(0, 96)) {
      Check.due("many " + many, x.odds(0, 1, 0, many, 0), DreamWindows.NO);
    }
    odds("96 are, though of one", x, 0, 1, 0, 96, 0, 1);
  }

  @Edge("NO: none such.")
  static void promise30NoSuchPart() {
    DreamWindows x = sleepers(1, 65535, 10);
    for (int part : Check.outside(0, 1)) {
      Check.due("part " + part, x.odds(0, 1, 0, 0, part), DreamWindows.NO);
    }
  }

  // ---- 31, 32

  @Edge("AN IMAGE is kept: how many SLEEPERS.")
  static void promise31OfNobodyAndOfSix() {
    DreamWindows x = new DreamWindows();
    Check.due("nobody", x.image(), 0);
    for (int s = 1; s <= 6; s++) {
      x.sleeper(0, 0, 0);
      Check.due("of " + s, x.image(), s);
    }
  }

  @Edge("AN IMAGE is kept: how many SLEEPERS.")
  static void promise31OnlyTheLastOneIsKept() {
    DreamWindows x = sleepers(1, 1, 1);
    x.image();
    x.hours(7);
    Check.rule(x, "dulls 0;limit 0;costs 0;");
    x.sleep();
    x.put(0, 0, 50);
    x.put(0, 16, 3);
    x.sleeper(0, 2, 2);
    x.image();
    x.hours(8);
    x.force(0);
    x.sleep();
    x.put(0, 0, 60);
    x.put(0, 16, 4);
    Check.due("of two", x.back(), 2);
    Check.due("NIGHT", x.count(1), 1);
    Check.due("MINUTES", x.count(2), 7);
    Check.due("THE LAW", x.count(4), 1);
    Check.due("DULL", x.told(0, 0), 50);
    Check.due("PICTURE", x.told(0, 16), 3);
    Check.due("again of two", x.back(), 2);
  }

  @Edge("STATE: there is none.")
  static void promise32StateAtFirst() {
    DreamWindows x = sleepers(2, 77, 7);
    Check.unchanged(x, () -> Check.due("none", x.back(), -3));
    Check.due("of nobody, too", new DreamWindows().back(), -3);
    x.image();
    Check.due("then there is one", x.back(), 2);
    Check.due("and it stays", x.back(), 2);
  }

  @Edge("All that it keeps is as in THE IMAGE, SLEEPERS that came since are none: how many there are.")
  static void promise32OfNobody() {
    DreamWindows x = new DreamWindows();
    x.image();
    for (int s = 0; s < 6; s++) {
      x.sleeper(59, 65535, 99);
    }
    Check.due("nobody", x.back(), 0);
    Check.due("count", x.count(0), 0);
    for (int s = 0; s < 6; s++) {
      Check.due("sleeper " + s, x.told(s, 0), -5);
    }
    Check.due("the first is new", x.sleeper(12, 3, 4), 0);
    int[] due = {4, 3, 1, 2, 64};
    for (int what = 15; what <= 19; what++) {
      Check.due("told " + what, x.told(0, what), due[what - 15]);
    }
  }

  @Edge("All that it keeps is as in THE IMAGE")
  static void promise32AllSix() {
    DreamWindows x = sleepers(6, 0xf00f, 5);
    Check.due("six", x.image(), 6);
    for (int s = 0; s < 6; s++) {
      x.put(s, 16, s);
      x.put(s, 15, 90);
    }
    Check.due("six again", x.back(), 6);
    for (int s = 0; s < 6; s++) {
      Check.due("PICTURE of " + s, x.told(s, 16), 0xf00f);
      Check.due("how DULL " + s + " is", x.told(s, 19), 80);
    }
  }

  @Edge("SLEEPERS that came since are none:")
  static void promise32FullIsNoLongerSo() {
    DreamWindows x = sleepers(5, 1, 1);
    x.image();
    x.sleeper(0, 1, 1);
    Check.due("full", x.sleeper(0, 1, 1), -4);
    Check.due("five", x.back(), 5);
    Check.due("the sixth is none", x.view(5, 0), -5);
    Check.due("a sixth", x.sleeper(30, 1, 1), 5);
    Check.due("full again", x.sleeper(0, 1, 1), -4);
    Check.due("its KIND", x.told(5, 17), 3);
  }

  @Edge("AN IMAGE keeps how DULL all CELLS are, PICTURES, how many SLEEPERS there are, NIGHT, MINUTES, THE LAW.")
  static void promise32AllThatItKeepsAndNoMore() {
    DreamWindows x = sleepers(2, 0x8001, 5);
    Check.rule(x, "dulls 0;limit 1;costs 1;");
    x.sleep();
    x.hours(7);
    x.image();
    x.sleep();
    x.hours(999);
    x.force(0);
    for (int s = 0; s < 2; s++) {
      x.put(s, 0, 99);
      x.put(s, 15, 98);
      x.put(s, 16, 2);
    }
    Check.read(x, "dulls 2;limit 2;costs 2;");
    x.feed(2, 65, 66, 0, 0, 0);
    Check.tell(x, 0, 9, 8);
    Check.due("two", x.back(), 2);
    int[] due = {2, 1, 7, 3, 1, 2};
    for (int what = 0; what <= 5; what++) {
      Check.due("count " + what, x.count(what), due[what]);
    }
    for (int s = 0; s < 2; s++) {
      Check.due("cell 0 of " + s, x.told(s, 0), 5);
      Check.due("cell 15 of " + s, x.told(s, 15), 5);
      Check.due("all of " + s, x.told(s, 19), 80);
      Check.due("PICTURE of " + s, x.told(s, 16), 0x8001);
    }
    Check.due("the SHEET stays", Check.bits(x, 0, 2, 1), 8);
    Check.due("the TEXT stays", x.force(2), 1);
  }

  @Edge("All that it keeps is as in THE IMAGE")
  static void promise32WhatChangesBehindDoesNotChangeTheImage() {
    DreamWindows x = sleepers(1, 1, 5);
    x.image();
    for (int i = 0; i < 2; i++) {
      x.put(0, 0, 77);
      x.put(0, 16, 3);
      x.sleep();
      x.back();
      Check.due("DULL", x.told(0, 19), 80);
      Check.due("PICTURE", x.told(0, 16), 1);
      Check.due("NIGHT", x.count(1), 0);
    }
  }
}
