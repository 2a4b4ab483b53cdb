/** Promises 17 to 22: what is best. */
final class BestTests {
  private BestTests() {}

  static void all() {
    best();
    whom();
    show();
    way();
    often();
    joins();
  }

  private static void threeOf(DreamWindows x, int s, int cells, int many, int cost) {
    Check.due("17: cells", x.best(s, 0), cells);
    Check.due("17: how many", x.best(s, 1), many);
    Check.due("17: cost", x.best(s, 2), cost);
  }

  private static void best() {
    DreamWindows x = new DreamWindows();
    Check.due("17: no sleeper, ahead of what", x.best(0, 3), -5);
    x.sleeper(0, 0x00ff, 19);
    threeOf(x, 0, 0x0007, 3, 60);
    x.hours(59);
    threeOf(x, 0, 0x0003, 2, 40);
    x.hours(19);
    threeOf(x, 0, 0, 0, 0);
    x.hours(61);
    x.put(0, 5, 11);
    x.put(0, 6, 14);
    x.put(0, 9, 11);
    x.put(0, 7, 10);
    threeOf(x, 0, 0x0061, 3, 12 + 15 + 20);
    x.hours(27);
    threeOf(x, 0, 0x0060, 2, 27);
    x.hours(26);
    threeOf(x, 0, 0x0020, 1, 12);
    x.hours(999);
    threeOf(x, 0, 0x007f, 7, 12 + 15 + 5 * 20);
    Check.due("17: what", x.best(0, 3), -7);
    Check.due("17: what below", x.best(0, -1), -7);
    Check.due("17: below", x.best(-1, 0), -5);
    Check.due("17: above", x.best(1, 0), -5);
    DreamWindows y = new DreamWindows();
    y.sleeper(40, 65535, 99);
    Check.rule(y, "dulls 0;limit 0;costs 0;");
    y.hours(0);
    threeOf(y, 0, 0xffff & ~0x0660, 12, 0);
    y.hours(2);
    threeOf(y, 0, 0xf99f | 0x0060, 14, 2);
  }

  private static void whom() {
    DreamWindows x = new DreamWindows();
    Check.due("18: nobody", x.whom(0), -1);
    Check.due("18: nothing", x.whom(1), 0);
    x.sleeper(0, 0x000f, 0);
    Check.due("18: nothing to find", x.whom(0), 0);
    Check.due("18: none", x.whom(1), 0);
    x.sleeper(0, 0x000f, 29);
    x.sleeper(0, 0x0003, 11);
    Check.due("18: of like ones the first", x.whom(0), 1);
    Check.due("18: two", x.whom(1), 2);
    x.put(2, 16, 0x0007);
    Check.due("18: more", x.whom(0), 2);
    Check.due("18: three", x.whom(1), 3);
    x.hours(5);
    Check.due("18: too short", x.whom(0), 0);
    Check.due("18: too short for one", x.whom(1), 0);
    Check.due("18: what", x.whom(2), -2);
    Check.due("18: what below", x.whom(-1), -2);
  }

  private static void show() {
    DreamWindows x = new DreamWindows();
    Check.due("19: no sleeper, ahead of picture", x.show(0, -1), -5);
    x.sleeper(20, 0x0fff, 10);
    x.put(0, 0, 20);
    x.put(0, 5, 30);
    Check.due("19: seen already", x.show(0, 0x0ede), 0);
    Check.due("19: one", x.show(0, 0x0001), 21);
    Check.due("19: two", x.show(0, 0x0fff), 21 + 62);
    Check.due("19: none", x.show(0, 0), 0);
    Check.due("19: not of the picture", x.show(0, 0x1001), -1);
    x.hours(0);
    Check.due("19: minutes do not matter", x.show(0, 0x0021), 83);
    Check.due("19: picture", x.show(0, 65536), -7);
    Check.due("19: picture below", x.show(0, -1), -7);
    Check.due("19: below", x.show(-1, 0), -5);
    Check.due("19: above", x.show(1, 0), -5);
    Check.due("19: in thought", x.told(0, 5), 30);
  }

  private static void way() {
    DreamWindows x = new DreamWindows();
    Check.due("20: no sleeper, ahead of cells", x.way(0, -1), -5);
    x.sleeper(0, 0, 9);
    Check.due("20: that alone", x.way(0, 505), 10);
    Check.due("20: 0 alone", x.way(0, 0), 10);
    Check.due("20: 15 alone", x.way(0, 1515), 10);
    Check.due("20: from 1 to 15", x.way(0, 115), 60);
    Check.due("20: beside", x.way(0, 506), 20);
    Check.due("20: not around the rim", x.way(0, 304), 50);
    Check.due("20: to the far corner", x.way(0, 1500), 70);
    int[] bright = {0, 1, 2, 3, 7, 11, 10, 9, 8, 12, 13, 14, 15};
    for (int c : bright) {
      x.put(0, c, 0);
    }
    Check.due("20: around by ten", x.way(0, 12), 10);
    x.put(0, 4, 1);
    Check.due("20: by the shorter one", x.way(0, 12), 1 + 2 + 1 + 1);
    for (int c = 4; c < 7; c++) {
      x.put(0, c, 99);
    }
    Check.due("20: winding", x.way(0, 15), 7);
    x.put(0, 3, 99);
    Check.due("20: the least dear", x.way(0, 7), 1 + 1 + 1 + 1 + 100);
    Check.due("20: both ends", x.way(0, 404), 100);
    Check.due("20: one", x.way(0, 1600), -7);
    Check.due("20: the other", x.way(0, 16), -7);
    Check.due("20: below", x.way(0, -1), -7);
    Check.due("20: far below", x.way(0, -101), -7);
    Check.due("20: no such sleeper", x.way(1, 0), -5);
    Check.due("20: sleeper below", x.way(-1, 0), -5);
    DreamWindows y = new DreamWindows();
    y.sleeper(0, 0, 99);
    int[] longest = {0, 1, 2, 3, 7, 11, 15, 14, 13, 9};
    for (int c : longest) {
      y.put(0, c, 0);
    }
    Check.due("20: around", y.way(0, 9), 10);
    Check.due("20: and back", y.way(0, 900), 10);
  }

  private static int often(int kindMore, String text, int nights) {
    DreamWindows x = new DreamWindows();
    x.sleeper(kindMore, 65535, 99);
    Check.rule(x, text);
    for (int i = 0; i < nights; i++) {
      x.sleep();
    }
    return x.often(0);
  }

  private static void often() {
    DreamWindows x = new DreamWindows();
    Check.due("21: no sleeper", x.often(0), -5);
    x.sleeper(0, 65535, 99);
    Check.due("21: three", x.often(0), 3);
    Check.due("21: in thought", x.told(0, 0), 99);
    Check.due("21: below", x.often(-1), -5);
    Check.due("21: above", x.often(1), -5);
    Check.due("21: nine", often(0, "dulls 1;limit 9;costs 0;", 0), 9);
    Check.due("21: eight", often(0, "dulls 1;limit 8;costs 0;", 0), 8);
    Check.due("21: none", often(0, "dulls 9;limit 8;costs 0;", 0), -1);
    Check.due("21: by night", often(0, "dulls 5;limit 5+10*(19<night);costs 0;", 0), 1);
    // Only the last of the 20 nights dulls, and limits what is behind it.
    Check.due("21: the twentieth", often(0, "dulls night=19;limit 0;costs 0;", 0), -1);
    Check.due("21: not the next one", often(0, "dulls night=20;limit 0;costs 0;", 0), 9);
    Check.due("21: from now on", often(0, "dulls night=20;limit 0;costs 0;", 1), -1);
    Check.due("21: limit behind the night", often(0, "dulls 1;limit 1-(night=20);costs 0;", 0), -1);
    Check.due("21: limit behind the next one", often(0, "dulls 1;limit 1-(night=21);costs 0;", 0), 1);
    // To be cleaned just ahead of night 6: 1, 2, 3 and 6 fit, 4 and 5 don't.
    Check.due("21: fits again", often(0, "dulls (night=5)+9*(night=6);limit 9;costs 0;", 0), 6);
    Check.due("21: a manager", often(56, "dulls 3;limit 10;costs 0;", 0), 2);
    x.put(0, 16, 0);
    Check.due("21: no picture", x.often(0), 9);
    x.put(0, 16, 1);
    Check.rule(x, "dulls column*5+1;limit 5;costs 0;");
    Check.due("21: only of the picture", x.often(0), 5);
  }

  private static void joins() {
    DreamWindows x = new DreamWindows();
    x.sleeper(0, 0x000f, 0);
    x.sleeper(0, 0x00f0, 0);
    // Row 0 against row 1: by one row up, or three down, where only nothing meets nothing.
    Check.due("22: moves", x.joins(1, 0), 14);
    Check.due("22: first", x.joins(1, 1), 2);
    // The other way by one row down, or three up.
    Check.due("22: the other way", x.joins(10, 0), 14);
    Check.due("22: first the other way", x.joins(10, 1), 0);
    x.put(0, 16, 65535);
    x.put(1, 16, 0);
    Check.due("22: none", x.joins(1, 0), 0);
    Check.due("22: none first", x.joins(1, 1), -1);
    x.put(1, 16, 1);
    Check.due("22: a corner", x.joins(1, 0), 1);
    Check.due("22: right and down", x.joins(1, 1), 66);
    x.put(1, 16, 1 << 3);
    Check.due("22: left and down", x.joins(1, 1), 6);
    x.put(1, 16, 1 << 12);
    Check.due("22: right and up", x.joins(1, 1), 60);
    x.put(1, 16, 1 << 3 | 1 << 12);
    Check.due("22: x first", x.joins(1, 1), 6);
    Check.due("22: two", x.joins(1, 0), 2);
    x.put(1, 16, 0);
    x.put(0, 0, 11);
    Check.due("22: the one is not clear", x.joins(1, 1), 0);
    Check.due("22: only there", x.joins(1, 0), 1);
    x.put(0, 0, 10);
    x.put(1, 0, 11);
    Check.due("22: the other is not clear", x.joins(1, 1), 66);
    x.sleeper(0, 65535, 11);
    Check.due("22: nothing is clear", x.joins(2, 0), 49);
    Check.due("22: then the first", x.joins(2, 1), 0);
  }
}
