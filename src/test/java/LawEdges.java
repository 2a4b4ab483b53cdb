/** Boundary cases of promises 1 to 4 and 6 to 10: the law, sleepers. Those of texts are in TextEdges. */
final class LawEdges {
  private LawEdges() {}

  private static void refusedSleepers(String what, java.util.function.IntUnaryOperator call, int due, int sleepers) {
    for (int s : Check.outside(0, sleepers - 1)) {
      Check.due(what + " of sleeper " + s, call.applyAsInt(s), due);
    }
  }

  // ---- 1

  @Edge("No SLEEPERS.")
  static void promise1NoSleepersAtFirst() {
    DreamWindows x = new DreamWindows();
    Check.due("how many", x.count(0), 0);
    for (int s = 0; s < 6; s++) {
      Check.due("sleeper " + s, x.told(s, 0), -5);
    }
    Check.due("the first one's number", x.sleeper(0, 0, 0), 0);
  }

  @Edge("NIGHT (0 .. 999; 0 at first;")
  static void promise1Night0AtFirst() {
    Check.due("NIGHT", new DreamWindows().count(1), 0);
    DreamWindows x = Check.by("dulls 0;limit 0;costs 50+night;");
    x.sleeper(0, 0, 0);
    Check.due("as a text sees it", x.asks(2, 0, 0), 50);
  }

  @Edge("MINUTES (0 .. 999; 60 at first).")
  static void promise1Minutes60AtFirst() {
    DreamWindows x = new DreamWindows();
    Check.due("MINUTES", x.count(2), 60);
    x.sleeper(0, 0, 59);
    Check.due("60 are enough for 60", x.clean(0, 0), 60);
    x.put(0, 0, 60);
    Check.due("not for 61", x.clean(0, 0), -3);
  }

  @Edge("TEXT 0, at first, and THE LAW: dulls 3 ; limit 10 ; costs dull ;")
  static void promise1OneTextAtFirst() {
    DreamWindows x = new DreamWindows();
    Check.due("TEXTS", x.count(3), 1);
    Check.due("THE LAW", x.count(4), 0);
    Check.due("no other one", x.force(1), -2);
    x.sleeper(0, 0, 42);
    Check.due("dulls", x.asks(0, 0, 0), 3);
    Check.due("limit", x.asks(1, 0, 0), 10);
    Check.due("costs", x.asks(2, 0, 0), 42);
  }

  @Edge("No SLEEPERS.")
  static void promise1TheTapeIsEmptyAtFirst() {
    DreamWindows x = new DreamWindows();
    Check.due("bytes", x.count(5), 0);
    Check.due("its fault is at 0", x.text(), -100);
  }

  // ---- 2

  @Edge("0 SLEEPERS, 1 NIGHT, 2 MINUTES, 3 TEXTS, 4 THE LAW, 5 bytes of THE TAPE. BAD.")
  static void promise2BadBelow0AndAbove5() {
    DreamWindows x = new DreamWindows();
    for (int what : Check.outside(0, 5)) {
      Check.due("count " + what, x.count(what), -2);
    }
    Check.due("0 is not", x.count(0), 0);
    Check.due("5 is not", x.count(5), 0);
  }

  // ---- 3

  @Edge("MINUTES become n (0 .. 999): what they were.")
  static void promise3From0To999() {
    DreamWindows x = new DreamWindows();
    Check.due("0 behind 60", x.hours(0), 60);
    Check.due("are 0", x.count(2), 0);
    Check.due("999 behind 0", x.hours(999), 0);
    Check.due("are 999", x.count(2), 999);
  }

  @Edge("BAD.")
  static void promise3BadBelow0AndAbove999() {
    DreamWindows x = new DreamWindows();
    x.hours(7);
    for (int n : Check.outside(0, 999)) {
      Check.due("hours " + n, x.hours(n), -2);
      Check.due("stay behind " + n, x.count(2), 7);
    }
  }

  // ---- 4

  private static void blanks(DreamWindows x, int n) {
    for (int i = 0; i < n; i++) {
      x.feed(1, 32, 0, 0, 0, 0);
    }
  }

  @Edge("The first n (1 .. 5)")
  static void promise4OneToFiveCome() {
    for (int n = 1; n <= 5; n++) {
      DreamWindows x = new DreamWindows();
      Check.due("the first " + n, x.feed(n, 32, 32, 32, 32, 32), n);
      Check.due("so many are there", x.count(5), n);
    }
  }

  @Edge("come behind THE TAPE's, one by one: how many it has.")
  static void promise4OnlyTheFirstOnesCome() {
    String rest = ";limit 1;costs 1;";
    for (int n = 1; n <= 5; n++) {
      DreamWindows x = new DreamWindows();
      x.sleeper(0, 0, 0);
      Check.feed(x, "dulls ");
      x.feed(n, '4', '*', '7', '-', '1');
      Check.feed(x, n == 2 || n == 4 ? "2" + rest : rest);
      x.force(x.text());
      int[] due = {4, 8, 28, 26, 27};
      Check.due("by the first " + n, x.asks(0, 0, 0), due[n - 1]);
    }
  }

  @Edge("of five bytes (0 .. 255 each)")
  static void promise4BytesFrom0To255() {
    DreamWindows x = new DreamWindows();
    Check.due("0 and 255", x.feed(5, 0, 255, 0, 255, 0), 5);
    Check.due("255 and 0", x.feed(5, 255, 0, 255, 0, 255), 10);
  }

  @Edge("BAD: n, any of the five;")
  static void promise4BadNBelow1AndAbove5() {
    DreamWindows x = new DreamWindows();
    for (int n : Check.outside(1, 5)) {
      Check.due("n " + n, x.feed(n, 32, 32, 32, 32, 32), -2);
      Check.due("none came of " + n, x.count(5), 0);
    }
  }

  @Edge("BAD: n, any of the five;")
  static void promise4BadAnyOfTheFiveThoughOnlyTheFirstCome() {
    DreamWindows x = new DreamWindows();
    for (int n = 1; n <= 5; n += 4) {
      for (int b : Check.outside(0, 255)) {
        Check.due(n + ", first " + b, x.feed(n, b, 32, 32, 32, 32), -2);
        Check.due(n + ", second " + b, x.feed(n, 32, b, 32, 32, 32), -2);
        Check.due(n + ", third " + b, x.feed(n, 32, 32, b, 32, 32), -2);
        Check.due(n + ", fourth " + b, x.feed(n, 32, 32, 32, b, 32), -2);
        Check.due(n + ", fifth " + b, x.feed(n, 32, 32, 32, 32, b), -2);
      }
    }
    Check.due("none came", x.count(5), 0);
  }

  @Edge("FULL: they have not all room (none comes).")
  static void promise4FullIfNotAllHaveRoom() {
    for (int n = 1; n <= 5; n++) {
      DreamWindows x = new DreamWindows();
      blanks(x, 161 - n);
      Check.due("one too many of " + n, x.feed(n, 32, 32, 32, 32, 32), -4);
      Check.due("none of " + n + " came", x.count(5), 161 - n);
    }
  }

  @Edge("A TEXT is read from THE TAPE (160 bytes at most).")
  static void promise4RoomFor160() {
    for (int n = 1; n <= 5; n++) {
      DreamWindows x = new DreamWindows();
      blanks(x, 160 - n);
      Check.due("the last " + n, x.feed(n, 32, 32, 32, 32, 32), 160);
      Check.due("and one", x.feed(1, 32, 32, 32, 32, 32), -4);
      Check.due("160 stay", x.count(5), 160);
    }
  }

  @Edge("FULL: they have not all room (none comes).")
  static void promise4WhatCameBeforeStaysBehindFull() {
    DreamWindows x = new DreamWindows();
    Check.feed(x, "dulls 1;limit 2;costs 3;");
    blanks(x, 133);
    Check.due("five for three", x.feed(5, '?', '?', '?', '?', '?'), -4);
    Check.due("is a text yet", x.text(), 1);
  }

  @Edge({"BAD: n, any of the five; FULL", "REFUSALS, of several the first one told"})
  static void promise4BadAheadOfFull() {
    DreamWindows x = new DreamWindows();
    blanks(x, 160);
    Check.due("n 0", x.feed(0, 32, 32, 32, 32, 32), -2);
    Check.due("n 6", x.feed(6, 32, 32, 32, 32, 32), -2);
    Check.due("the first", x.feed(5, 256, 32, 32, 32, 32), -2);
    Check.due("the last", x.feed(1, 32, 32, 32, 32, -1), -2);
    Check.due("full", x.feed(1, 32, 32, 32, 32, 32), -4);
  }

  // ---- 6

  @Edge("A TEXT is THE LAW: which was.")
  static void promise6FromTheFirstTextToTheLast() {
    DreamWindows x = new DreamWindows();
    x.sleeper(0, 0, 0);
    for (int t = 1; t <= 5; t++) {
      Check.read(x, "dulls " + t + ";limit 0;costs 0;");
    }
    Check.due("the last", x.force(5), 0);
    Check.due("is the law", x.count(4), 5);
    Check.due("says so", x.asks(0, 0, 0), 5);
    Check.due("the first", x.force(0), 5);
    Check.due("says 3", x.asks(0, 0, 0), 3);
  }

  @Edge("BAD.")
  static void promise6BadNoSuchText() {
    DreamWindows x = Check.by("dulls 7;limit 0;costs 0;");
    x.sleeper(0, 0, 0);
    for (int t : Check.outside(0, 1)) {
      Check.due("text " + t, x.force(t), -2);
      Check.due("the law stays behind " + t, x.count(4), 1);
    }
    Check.due("says the same", x.asks(0, 0, 0), 7);
  }

  @Edge("BAD.")
  static void promise6BadATextOfAFault() {
    DreamWindows x = new DreamWindows();
    Check.read(x, "dulls 1;limit 1;");
    Check.due("none came", x.force(1), -2);
  }

  // ---- 7; what texts say is in TextEdges

  @Edge("What part 0 dulls, 1 limit, 2 costs says of a CELL of a SLEEPER's. BAD.")
  static void promise7BadPart() {
    DreamWindows x = new DreamWindows();
    x.sleeper(0, 0, 5);
    for (int part : Check.outside(0, 2)) {
      Check.due("part " + part, x.asks(part, 0, 0), -2);
    }
    Check.due("0 is not", x.asks(0, 0, 0), 3);
    Check.due("2 is not", x.asks(2, 0, 0), 5);
  }

  @Edge("What part 0 dulls, 1 limit, 2 costs says of a CELL of a SLEEPER's. BAD.")
  static void promise7BadSleeper() {
    DreamWindows x = new DreamWindows();
    Check.due("nobody is there", x.asks(0, 0, 0), -2);
    x.sleeper(0, 0, 5);
    x.sleeper(0, 0, 6);
    refusedSleepers("asks", s -> x.asks(0, s, 0), -2, 2);
    Check.due("the last", x.asks(2, 1, 0), 6);
  }

  @Edge("What part 0 dulls, 1 limit, 2 costs says of a CELL of a SLEEPER's. BAD.")
  static void promise7BadCell() {
    DreamWindows x = new DreamWindows();
    x.sleeper(0, 0, 5);
    x.put(0, 15, 8);
    for (int cell : Check.outside(0, 15)) {
      Check.due("cell " + cell, x.asks(2, 0, cell), -2);
    }
    Check.due("0 is not", x.asks(2, 0, 0), 5);
    Check.due("15 is not", x.asks(2, 0, 15), 8);
  }

  // ---- 8

  @Edge("kindMore: 10 times KIND, and MORE;")
  static void promise8FromKind0More0ToKind5More9() {
    DreamWindows x = new DreamWindows();
    Check.due("the least", x.sleeper(0, 0, 0), 0);
    Check.due("the most", x.sleeper(59, 0, 0), 1);
    Check.due("MORE 9 of KIND 0", x.sleeper(9, 0, 0), 2);
    Check.due("MORE 0 of KIND 1", x.sleeper(10, 0, 0), 3);
    int[][] due = {{0, 0}, {5, 9}, {0, 9}, {1, 0}};
    for (int s = 0; s < 4; s++) {
      Check.due("KIND of " + s, x.told(s, 17), due[s][0]);
      Check.due("MORE of " + s, x.told(s, 18), due[s][1]);
    }
  }

  @Edge("kindMore: 10 times KIND, and MORE;")
  static void promise8EachKindWithTheLeastAndTheMostMore() {
    for (int more = 0; more <= 9; more += 9) {
      DreamWindows x = new DreamWindows();
      for (int kind = 0; kind < 6; kind++) {
        x.sleeper(10 * kind + more, 0, 0);
        Check.due("KIND " + kind, x.told(kind, 17), kind);
        Check.due("MORE " + more, x.told(kind, 18), more);
      }
    }
  }

  @Edge("the PICTURE, 0 .. 65535;")
  static void promise8PictureFrom0To65535() {
    DreamWindows x = new DreamWindows();
    Check.due("nothing", x.sleeper(0, 0, 0), 0);
    Check.due("everywhere", x.sleeper(0, 65535, 0), 1);
    Check.due("is nothing", x.told(0, 16), 0);
    Check.due("is everywhere", x.told(1, 16), 65535);
  }

  @Edge({"how DULL all CELLS are, 0 .. 99):", "each CELL is DULL (0 .. 99)."})
  static void promise8DullFrom0To99() {
    DreamWindows x = new DreamWindows();
    Check.due("0", x.sleeper(0, 0, 0), 0);
    Check.due("99", x.sleeper(0, 0, 99), 1);
    for (int c : Check.ends(0, 15)) {
      Check.due("0 at " + c, x.told(0, c), 0);
      Check.due("99 at " + c, x.told(1, c), 99);
    }
  }

  @Edge("the number. BAD;")
  static void promise8BadKindMore() {
    DreamWindows x = new DreamWindows();
    for (int kindMore : Check.outside(0, 59)) {
      Check.due("kindMore " + kindMore, x.sleeper(kindMore, 0, 0), -2);
      Check.due("nobody came by " + kindMore, x.count(0), 0);
    }
  }

  @Edge("the number. BAD;")
  static void promise8BadPicture() {
    DreamWindows x = new DreamWindows();
    for (int picture : Check.outside(0, 65535)) {
      Check.due("picture " + picture, x.sleeper(0, picture, 0), -2);
      Check.due("nobody came by " + picture, x.count(0), 0);
    }
  }

  @Edge("the number. BAD;")
  static void promise8BadDullness() {
    DreamWindows x = new DreamWindows();
    for (int dullness : Check.outside(0, 99)) {
      Check.due("dullness " + dullness, x.sleeper(0, 0, dullness), -2);
      Check.due("nobody came by " + dullness, x.count(0), 0);
    }
  }

  @Edge({"FULL.", "SLEEPERS are numbered from 0 on, 6 at most:"})
  static void promise8FullBehindSix() {
    DreamWindows x = new DreamWindows();
    for (int s = 0; s < 6; s++) {
      Check.due("the number", x.sleeper(10 * s, s, s), s);
    }
    Check.unchanged(x, () -> Check.due("the seventh", x.sleeper(11, 77, 7), -4));
    Check.due("six", x.count(0), 6);
  }

  @Edge("BAD; FULL.")
  static void promise8BadAheadOfFull() {
    DreamWindows x = new DreamWindows();
    for (int s = 0; s < 6; s++) {
      x.sleeper(0, 0, 0);
    }
    Check.due("kindMore", x.sleeper(60, 0, 0), -2);
    Check.due("picture", x.sleeper(0, 65536, 0), -2);
    Check.due("dullness", x.sleeper(0, 0, 100), -2);
    Check.due("full", x.sleeper(0, 0, 0), -4);
  }

  // ---- 9

  @Edge("How DULL CELL what (0 .. 15) is,")
  static void promise9CellsFrom0To15DullFrom0To99() {
    DreamWindows x = new DreamWindows();
    x.sleeper(0, 1, 5);
    for (int c : Check.ends(0, 15)) {
      Check.due("99 at " + c, x.put(0, c, 99), 5);
      Check.due("0 at " + c, x.put(0, c, 0), 99);
      Check.due("is 0 at " + c, x.told(0, c), 0);
    }
    Check.due("no other one", x.told(0, 19), 14 * 5);
  }

  @Edge("the PICTURE (16) becomes v: what it was.")
  static void promise9PictureFrom0To65535() {
    DreamWindows x = new DreamWindows();
    x.sleeper(0, 1, 5);
    Check.due("everywhere", x.put(0, 16, 65535), 1);
    Check.due("100, more than a CELL", x.put(0, 16, 100), 65535);
    Check.due("nothing", x.put(0, 16, 0), 100);
    Check.due("is nothing", x.told(0, 16), 0);
    Check.due("no CELL", x.told(0, 19), 80);
  }

  @Edge("-5: no such SLEEPER;")
  static void promise9NoSuchSleeper() {
    DreamWindows x = new DreamWindows();
    Check.due("nobody is there", x.put(0, 0, 0), -5);
    x.sleeper(0, 1, 5);
    x.sleeper(0, 2, 6);
    Check.unchanged(x, () -> refusedSleepers("put", s -> x.put(s, 0, 50), -5, 2));
    Check.due("the last", x.put(1, 0, 50), 6);
  }

  @Edge("-7: what, v.")
  static void promise9NoSuchWhat() {
    DreamWindows x = new DreamWindows();
    x.sleeper(0, 1, 5);
    Check.unchanged(x, () -> {
      for (int what : Check.outside(0, 16)) {
        Check.due("what " + what, x.put(0, what, 0), -7);
      }
    });
  }

  @Edge("-7: what, v.")
  static void promise9NoSuchDullness() {
    DreamWindows x = new DreamWindows();
    x.sleeper(0, 1, 5);
    Check.unchanged(x, () -> {
      for (int v : Check.outside(0, 99)) {
        Check.due("cell 0 " + v, x.put(0, 0, v), -7);
        Check.due("cell 15 " + v, x.put(0, 15, v), -7);
      }
    });
  }

  @Edge("-7: what, v.")
  static void promise9NoSuchPicture() {
    DreamWindows x = new DreamWindows();
    x.sleeper(0, 1, 5);
    Check.unchanged(x, () -> {
      for (int v : Check.outside(0, 65535)) {
        Check.due("picture " + v, x.put(0, 16, v), -7);
      }
    });
  }

  @Edge("-5: no such SLEEPER; -7: what, v.")
  static void promise9NoSuchSleeperAheadOfWhat() {
    DreamWindows x = new DreamWindows();
    Check.due("what, too", x.put(0, 17, 0), -5);
    Check.due("v, too", x.put(0, 0, 100), -5);
  }

  // ---- 10

  @Edge("How DULL CELL what (0 .. 15) is, 16 the PICTURE, 17 KIND, 18 MORE, 19 how DULL all CELLS are, together.")
  static void promise10FromTheFirstCellToAllTogether() {
    DreamWindows x = new DreamWindows();
    x.sleeper(28, 77, 99);
    x.put(0, 0, 1);
    x.put(0, 15, 2);
    Check.due("cell 0", x.told(0, 0), 1);
    Check.due("cell 15", x.told(0, 15), 2);
    Check.due("the PICTURE", x.told(0, 16), 77);
    Check.due("KIND", x.told(0, 17), 2);
    Check.due("MORE", x.told(0, 18), 8);
    Check.due("together", x.told(0, 19), 14 * 99 + 3);
    x.sleeper(0, 0, 99);
    Check.due("the most", x.told(1, 19), 1584);
  }

  @Edge("-5: no such SLEEPER;")
  static void promise10NoSuchSleeper() {
    DreamWindows x = new DreamWindows();
    Check.due("nobody is there", x.told(0, 0), -5);
    x.sleeper(0, 1, 5);
    x.sleeper(0, 2, 6);
    refusedSleepers("told", s -> x.told(s, 0), -5, 2);
    Check.due("the last", x.told(1, 0), 6);
  }

  @Edge("-7: what.")
  static void promise10NoSuchWhat() {
    DreamWindows x = new DreamWindows();
    x.sleeper(0, 1, 5);
    for (int what : Check.outside(0, 19)) {
      Check.due("what " + what, x.told(0, what), -7);
    }
  }

  @Edge("-5: no such SLEEPER; -7: what.")
  static void promise10NoSuchSleeperAheadOfWhat() {
    Check.due("both", new DreamWindows().told(0, 20), -5);
  }
}
