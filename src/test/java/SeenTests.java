/** Promises 11 to 16: what is seen, nights; and by which rules each kind goes. */
final class SeenTests {
  private static final int CORNERS = 0x9009;
  private static final int MIDDLE = 0x0660;

  private SeenTests() {}

  static void all() {
    view();
    costs();
    limits();
    together();
    sleep();
    dulls();
    clean();
    run();
    blind();
  }

  private static void view() {
    DreamWindows x = new DreamWindows();
    Check.due("11: no sleeper, ahead of what", x.view(0, 4), -5);
    x.sleeper(0, 0x00ff, 10);
    x.put(0, 1, 11);
    x.put(0, 8, 99);
    x.put(0, 9, 0);
    Check.due("11: clear", x.view(0, 0), 0xffff & ~(1 << 1 | 1 << 8));
    Check.due("11: seen", x.view(0, 1), 0x00fd);
    Check.due("11: how many", x.view(0, 2), 7);
    Check.due("11: costs", x.view(0, 3), 13 * 11 + 12 + 100 + 1);
    Check.due("11: what", x.view(0, 4), -7);
    Check.due("11: what below", x.view(0, -1), -7);
    Check.due("11: below", x.view(-1, 0), -5);
    Check.due("11: above", x.view(1, 0), -5);
  }

  /** One of the kind, every cell dull 0, by a text. */
  private static DreamWindows one(int kindMore, String text) {
    DreamWindows x = new DreamWindows();
    x.sleeper(kindMore, 65535, 0);
    Check.rule(x, text);
    return x;
  }

  private static void cost(int kindMore, int said, int corner, int edge, int middle) {
    DreamWindows x = one(kindMore, "dulls 0;limit 99;costs " + said + ";");
    int[] due = new int[16];
    for (int c = 0; c < 16; c++) {
      due[c] = (CORNERS >> c & 1) == 1 ? corner : (MIDDLE >> c & 1) == 1 ? middle : edge;
      Check.due("14: " + kindMore + " costs by " + said + " at " + c, x.clean(0, c), due[c]);
    }
    Check.due("11: " + kindMore + " costs by " + said, x.view(0, 3), 4 * corner + 8 * edge + 4 * middle);
  }

  private static void costs() {
    cost(9, 7, 8, 8, 8);
    cost(9, 0, 1, 1, 1);
    cost(19, 7, 8, 8, 8);
    cost(29, 7, 8, 8, 16);
    cost(39, 7, 8, 8, 8);
    cost(49, 7, 4, 4, 8);
    cost(49, 6, 3, 3, 7);
    cost(49, 0, 0, 0, 1);
    cost(59, 4, 5, 5, 5);
    cost(59, 0, 5, 5, 5);
    cost(59, 5, 6, 6, 6);
    cost(59, 7, 8, 8, 8);
  }

  private static void limit(int kindMore, int said, int corner, int elsewhere) {
    DreamWindows x = one(kindMore, "dulls 0;limit " + said + ";costs 0;");
    for (int c = 0; c < 16; c++) {
      int due = (CORNERS >> c & 1) == 1 ? corner : elsewhere;
      x.put(0, c, Math.min(99, due));
      Check.due("11: " + kindMore + " clear at " + c, x.view(0, 0) >> c & 1, 1);
      if (due < 99) {
        x.put(0, c, due + 1);
        Check.due("11: " + kindMore + " not clear at " + c, x.view(0, 0) >> c & 1, 0);
      }
    }
  }

  private static void limits() {
    limit(7, 20, 20, 20);
    limit(17, 20, 20, 20);
    limit(27, 20, 27, 27);
    limit(27, 96, 103, 103);
    limit(37, 20, 99, 20);
    limit(47, 20, 27, 27);
    limit(57, 20, 20, 20);
    limit(7, 0, 0, 0);
  }

  private static void together() {
    DreamWindows x = new DreamWindows();
    for (int what = 0; what < 3; what++) {
      Check.due("12: no sleepers " + what, x.all(what), 0);
    }
    x.sleeper(0, 0x0ff0, 0);
    Check.due("12: by each of one", x.all(1), 0x0ff0);
    x.sleeper(0, 0x00ff, 0);
    x.sleeper(0, 0x8030, 0);
    x.put(2, 15, 11);
    Check.due("12: by any", x.all(0), 0x0fff);
    Check.due("12: by each", x.all(1), 0x0030);
    Check.due("12: together", x.all(2), 18);
    Check.due("12: above", x.all(3), -2);
    Check.due("12: below", x.all(-1), -2);
  }

  private static void sleep() {
    DreamWindows x = new DreamWindows();
    x.sleeper(0, 65535, 90);
    x.put(0, 4, 96);
    x.put(0, 5, 97);
    Check.due("13: night", x.sleep(), 1);
    Check.due("13: duller", x.told(0, 0), 93);
    Check.due("13: 99", x.told(0, 4), 99);
    Check.due("13: 99 at most", x.told(0, 5), 99);
    Check.due("13: night again", x.sleep(), 2);
    Check.due("13: stays so", x.told(0, 5), 99);
    DreamWindows y = one(0, "dulls night*10+1;limit 0;costs 0;");
    y.sleeper(0, 1, 50);
    y.sleep();
    Check.due("13: ahead of the night's end", y.told(0, 0), 1);
    y.sleep();
    Check.due("13: the next one", y.told(0, 0), 12);
    Check.due("13: of all", y.told(1, 15), 62);
    DreamWindows z = one(0, "dulls dull+1;limit 0;costs 0;");
    z.sleep();
    z.sleep();
    z.sleep();
    Check.due("13: as dull as it is then", z.told(0, 9), 7);
  }

  private static void dull(int kindMore, int nights, int corner, int elsewhere) {
    DreamWindows x = one(kindMore, "dulls 10;limit 99;costs 0;");
    for (int i = 0; i < nights; i++) {
      x.sleep();
    }
    for (int c = 0; c < 16; c++) {
      int due = (CORNERS >> c & 1) == 1 ? corner : elsewhere;
      Check.due("13: " + kindMore + " behind " + nights + " at " + c, x.told(0, c), due);
    }
    DreamWindows y = one(kindMore, "dulls 10;limit 99;costs 0;");
    Check.due("15: " + kindMore + " behind " + nights, y.run(0, nights, 1), 4 * corner + 12 * elsewhere);
  }

  private static void dulls() {
    dull(7, 1, 10, 10);
    dull(17, 1, 20, 10);
    dull(27, 1, 10, 10);
    dull(37, 1, 27, 17);
    dull(37, 2, 54, 34);
    dull(47, 3, 0, 0);
    dull(57, 1, 1, 1);
    dull(57, 2, 18, 18);
    dull(57, 3, 19, 19);
    dull(57, 4, 36, 36);
    dull(17, 5, 99, 50);
  }

  private static void clean() {
    DreamWindows x = new DreamWindows();
    Check.due("14: no sleeper, ahead of the cell", x.clean(0, 16), -5);
    x.sleeper(0, 0, 59);
    x.put(0, 1, 60);
    Check.due("14: all minutes", x.clean(0, 0), 60);
    Check.due("14: clean", x.told(0, 0), 0);
    Check.due("14: minutes stay", x.count(2), 60);
    Check.due("14: longer", x.clean(0, 1), -3);
    Check.due("14: as it was", x.told(0, 1), 60);
    x.hours(61);
    Check.due("14: now", x.clean(0, 1), 61);
    Check.due("14: cell", x.clean(0, 16), -7);
    Check.due("14: cell below", x.clean(0, -1), -7);
    Check.due("14: below", x.clean(-1, 0), -5);
    Check.due("14: above", x.clean(1, 0), -5);
    Check.due("14: clean again", x.clean(0, 1), 1);
    x.hours(0);
    Check.due("14: no minutes", x.clean(0, 1), -3);
    x.sleeper(40, 0, 0);
    Check.due("14: costs nothing", x.clean(1, 0), 0);
  }

  private static void run() {
    DreamWindows x = new DreamWindows();
    Check.due("15: no sleeper, ahead of n", x.run(0, 41, 2), -5);
    x.sleeper(0, 0x1234, 5);
    x.put(0, 2, 8);
    Check.due("15: none", x.run(0, 0, 0), 0x1234);
    Check.due("15: none, together", x.run(0, 0, 1), 83);
    Check.due("15: one", x.run(0, 1, 0), 0x1230);
    Check.due("15: one, together", x.run(0, 1, 1), 99 + 32);
    Check.due("15: two", x.run(0, 2, 0), 0);
    Check.due("15: forty", x.run(0, 40, 1), 99 * 16);
    Check.due("15: in thought", x.told(0, 19), 83);
    Check.due("15: no night", x.count(1), 0);
    Check.due("15: n", x.run(0, 41, 0), -7);
    Check.due("15: n below", x.run(0, -1, 0), -7);
    Check.due("15: what", x.run(0, 0, 2), -7);
    Check.due("15: what below", x.run(0, 0, -1), -7);
    Check.due("15: below", x.run(-1, 0, 0), -5);
    Check.due("15: above", x.run(1, 0, 0), -5);
    DreamWindows y = one(0, "dulls night;limit night*2;costs 0;");
    y.sleep();
    y.sleep();
    // Dull 0, 1 by now; 3, 6, 10 behind further nights, and limits 6, 8, 10.
    Check.due("15: limits of that night", y.run(0, 3, 0), 65535);
    Check.due("15: and dull", y.run(0, 3, 1), 16 * 10);
    Check.due("15: behind one more", y.run(0, 4, 0), 0);
  }

  private static void blind() {
    DreamWindows x = new DreamWindows();
    Check.due("16: no sleeper", x.blind(0), -5);
    x.sleeper(0, 0, 0);
    Check.due("16: no picture", x.blind(0), 0);
    x.put(0, 16, 0x8001);
    Check.due("16: four", x.blind(0), 4);
    x.put(0, 0, 10);
    x.put(0, 15, 8);
    Check.due("16: the last one goes", x.blind(0), 1);
    x.put(0, 15, 11);
    x.put(0, 0, 11);
    Check.due("16: already", x.blind(0), 0);
    Check.due("16: below", x.blind(-1), -5);
    Check.due("16: above", x.blind(1), -5);
    DreamWindows y = one(0, "dulls 1;limit 39;costs 0;");
    Check.due("16: behind forty", y.blind(0), 40);
    y.put(0, 3, 0);
    Check.due("16: asked only", y.told(0, 3), 0);
    DreamWindows z = one(0, "dulls 1;limit 40;costs 0;");
    Check.due("16: never", z.blind(0), -1);
    DreamWindows w = one(0, "dulls 0;limit 0-night;costs 0;");
    Check.due("16: what is dull 0 is always clear", w.blind(0), -1);
    DreamWindows v = one(0, "dulls 9*(night=3);limit 5;costs 0;");
    v.sleep();
    v.sleep();
    Check.due("16: from this night on", v.blind(0), 2);
    Check.rule(v, "dulls 1;limit 5-5*(night=3);costs 0;");
    Check.due("16: by that night's limit", v.blind(0), 1);
  }
}
