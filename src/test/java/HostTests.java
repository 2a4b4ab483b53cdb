/** Promises 33 to 37: the host. */
final class HostTests {
  private HostTests() {}

  static void all() {
    sheet();
    cell();
    copy();
    sleepersBy();
    taken();
  }

  private static void sheet() {
    DreamWindows x = new DreamWindows();
    Check.due("33: sheet", x.sheet(4, 0, 1), -2);
    Check.due("33: sheet below", x.sheet(-1, 0, 1), -2);
    Check.due("33: sheet, missing", x.sheet(4, -1, 1), -2);
    Check.due("33: sort", x.sheet(0, 3, 1), -2);
    Check.due("33: sort below", x.sheet(0, -2, 1), -2);
    Check.due("33: too long", x.sheet(0, 0, 41), -2);
    Check.due("33: below 0", x.sheet(0, 2, -1), -14);
    Check.due("33: sort ahead of below 0", x.sheet(0, 3, -1), -2);
    Check.due("33: nothing came", x.cell(0, 0, 0), -11);
    Check.due("33: longest", x.sheet(0, 0, 40), 1);
    Check.due("33: its last", x.cell(0, 39, 1), 1);
    Check.due("33: no more", x.cell(0, 40, 1), -12);
    Check.due("33: empty", x.sheet(3, 1, 0), 1);
    Check.due("33: of none", x.cell(3, 0, 1), -12);
    Check.due("33: missing", x.sheet(0, -1, 41), 1);
    Check.due("33: is missing", x.cell(0, 0, 1), -11);
    Check.due("33: missing, below", x.sheet(3, -1, -1), 1);
    x.sleeper(0, 0, 0);
    x.sheet(0, 2, 3);
    x.cell(0, 1, 7);
    x.sheet(0, 2, 3);
    Check.due("33: all 0", x.guess(0, 0, 0), 0);
    Check.due("33: refused", x.sheet(0, 2, -1), -14);
    Check.due("33: changes nothing", x.cell(0, 2, 0), 1);
  }

  private static void cell() {
    DreamWindows x = new DreamWindows();
    x.sleeper(0, 0, 0);
    Check.due("34: sheet", x.cell(4, 0, 0), -2);
    Check.due("34: sheet below", x.cell(-1, 0, 0), -2);
    Check.due("34: missing, ahead of outside", x.cell(0, -1, 0), -11);
    for (int sort = 0; sort < 3; sort++) {
      x.sheet(sort, sort, 3);
      Check.due("34: outside", x.cell(sort, 3, 0), -12);
      Check.due("34: outside below", x.cell(sort, -1, 0), -12);
      Check.due("34: 1", x.cell(sort, 2, 0x12345678), 1);
      int[] due = {0x78, 0x5678, 0x5678};
      Check.due("34: lowest bits", Check.bits(x, sort, sort, 2), due[sort]);
      Check.due("34: only that", Check.bits(x, sort, sort, 1), 0);
    }
  }

  private static void copy() {
    DreamWindows x = new DreamWindows();
    x.sleeper(0, 0, 0);
    Check.due("35: sheet", x.copy(4, 0, 0, 0, 0), -2);
    Check.due("35: sheet below", x.copy(-1, 0, 0, 0, 0), -2);
    Check.due("35: other", x.copy(0, 0, 4, 0, 0), -2);
    Check.due("35: other below", x.copy(0, 0, -1, 0, 0), -2);
    Check.due("35: missing", x.copy(0, 0, 1, 0, 0), -11);
    x.sheet(0, 2, 5);
    Check.due("35: other missing", x.copy(0, 9, 1, 0, 0), -11);
    Check.due("35: one missing", x.copy(1, 0, 0, 9, 0), -11);
    x.sheet(1, 1, 5);
    Check.due("35: unlike sorts, ahead of outside", x.copy(0, 9, 1, 0, 1), -13);
    x.sheet(1, 2, 3);
    for (int i = 0; i < 5; i++) {
      x.cell(0, i, 10 + i);
    }
    Check.due("35: two", x.copy(0, 3, 1, 1, 2), 2);
    int[] due = {0, 13, 14};
    for (int i = 0; i < 3; i++) {
      Check.due("35: number " + i, Check.bits(x, 1, 2, i), due[i]);
    }
    Check.due("35: its own, up", x.copy(0, 0, 0, 1, 4), 4);
    int[] up = {10, 10, 11, 12, 13};
    for (int i = 0; i < 5; i++) {
      Check.due("35: up " + i, Check.bits(x, 0, 2, i), up[i]);
    }
    Check.due("35: its own, down", x.copy(0, 2, 0, 0, 3), 3);
    int[] down = {11, 12, 13, 12, 13};
    for (int i = 0; i < 5; i++) {
      Check.due("35: down " + i, Check.bits(x, 0, 2, i), down[i]);
    }
  }

  private static void sleepersBy() {
    DreamWindows x = new DreamWindows();
    Check.due("36: sheet", x.sleepersBy(4, 0, 0, 0), -2);
    Check.due("36: sheet below", x.sleepersBy(-1, 0, 0, 0), -2);
    Check.due("36: sort", x.sleepersBy(0, 3, 0, 0), -2);
    Check.due("36: sort below", x.sleepersBy(0, -1, 0, 0), -2);
    Check.due("36: n", x.sleepersBy(0, 0, 0, 7), -2);
    Check.due("36: n below", x.sleepersBy(0, 0, 0, -1), -2);
    Check.due("36: missing", x.sleepersBy(0, 0, 0, 1), -11);
    Check.sheet(x, 0, 2, 5, 47, 300, 9, 60, 1, 1, 23, 65535, 99);
    Check.due("36: another sort, ahead of outside", x.sleepersBy(0, 1, -1, 1), -13);
    Check.due("36: two of three", x.sleepersBy(0, 2, 1, 3), 2);
    Check.due("36: kind", x.told(0, 17), 4);
    Check.due("36: more", x.told(0, 18), 7);
    Check.due("36: picture", x.told(0, 16), 300);
    Check.due("36: dull", x.told(0, 15), 9);
    Check.due("36: the other one", x.told(1, 16), 65535);
    Check.due("36: the other one's kind", x.told(1, 17), 2);
    Check.due("36: none", x.sleepersBy(0, 2, 1, 0), 0);
    Check.due("36: none at all", x.sleepersBy(0, 2, 99, 0), 0);
    Check.sheet(x, 1, 0, 1, 127, 3, 1, 128, 3);
    Check.due("36: bytes have signs", x.sleepersBy(1, 0, 0, 2), 1);
    Check.sheet(x, 2, 1, 1, 32767, 3, 1, 32768, 3);
    Check.due("36: shorts have signs", x.sleepersBy(2, 1, 0, 2), 1);
    Check.due("36: four", x.count(0), 4);
  }

  private static void taken() {
    DreamWindows x = new DreamWindows();
    for (int kind = 0; kind < 6; kind++) {
      x.sleeper(10 * kind, 1000 + kind, 0);
    }
    // By kind, what it may be taken for: bit k a kind k.
    int[] due = {1, 1 | 2, 1 | 4, 1 | 2 | 8, 1 | 4 | 16, 1 | 32};
    for (int i = 0; i < 6; i++) {
      for (int kind = 0; kind < 6; kind++) {
        Check.due("37: " + i + " for " + kind, x.taken(i, kind), (due[i] >> kind & 1) == 1 ? i : -13);
        Check.due("37: a picture for " + kind, x.taken(i + 6, kind), -13);
      }
      Check.due("37: no picture", x.taken(i, 6), -13);
      Check.due("37: picture", x.taken(i + 6, 6), 1000 + i);
    }
    Check.due("37: kind", x.taken(12, 7), -2);
    Check.due("37: kind below", x.taken(0, -1), -2);
    Check.due("37: place", x.taken(12, 0), -12);
    Check.due("37: place below", x.taken(-1, 6), -12);
    DreamWindows y = new DreamWindows();
    y.sleeper(0, 5, 0);
    Check.due("37: nobody", y.taken(1, 0), -11);
    Check.due("37: nobody, ahead of another kind", y.taken(1, 6), -11);
    Check.due("37: nobody's picture", y.taken(7, 6), -11);
    Check.due("37: nobody's picture, ahead of a kind", y.taken(7, 3), -11);
    Check.due("37: the first one's", y.taken(6, 6), 5);
  }
}
