/** Promises 29 to 32: flies by lots, images. */
final class FliesTests {
  private FliesTests() {}

  static void all() {
    drawn();
    odds();
    image();
    imageRest();
  }

  private static void drawn() {
    DreamWindows x = new DreamWindows();
    Check.due("29: no sleepers", x.drawn(0, 99), 0);
    x.sleeper(0, 0xffff, 10);
    x.sleeper(0, 0xffff, 10);
    Check.due("29: no flies", x.drawn(5, 0), 32);
    // The first lot of seed 0 is 48271: modulo 32 it is 15, modulo 16 it is 15, too.
    x.put(0, 16, 0xffff & ~(1 << 15));
    Check.due("29: on what isn't seen", x.drawn(0, 1), 31);
    // The next one is 182605794: modulo 32 it is 2.
    Check.due("29: and on what is", x.drawn(0, 2), 30);
    // The first one of seed 1 is 96542: modulo 32 it is 30, so cell 14 of the other one.
    x.put(1, 16, 1 << 14);
    Check.due("29: the other one's", x.drawn(1, 1), 15);
    x.put(1, 14, 0);
    Check.rule(x, "dulls 0;limit 20;costs 0;");
    Check.due("29: 20 duller", x.drawn(1, 1), 16);
    x.put(1, 14, 1);
    Check.due("29: 21", x.drawn(1, 1), 15);
    Check.due("29: in thought", x.told(1, 14), 1);
    Check.rule(x, "dulls 0;limit 99;costs 0;");
    x.put(1, 14, 98);
    Check.due("29: 99 at most", x.drawn(1, 99), 16);
    // Seed 99999: 100000 times 48271 modulo 2147483647 is 532132706, modulo 32 it is 2.
    Check.rule(x, "dulls 0;limit 10;costs 0;");
    x.put(0, 16, 4);
    x.put(1, 16, 0);
    Check.due("29: the last seed", x.drawn(99999, 1), 0);
    Check.due("29: the last seed, no flies", x.drawn(99999, 0), 1);
  }

  private static void odds() {
    DreamWindows x = new DreamWindows();
    Check.due("30: no sleepers, 0 or more", x.odds(0, 40, 9, 0, 0), 1);
    Check.due("30: of one", x.odds(0, 40, 9, 0, 1), 1);
    Check.due("30: no sleepers, 1 or more", x.odds(0, 40, 9, 1, 0), 0);
    Check.due("30: none of one", x.odds(0, 40, 9, 1, 1), 1);
    // Of one sleeper, the first lots of seeds 0 .. 3 modulo 16: 15, 14, 13, 12; a seed more is one less.
    x.sleeper(0, 0xf000, 10);
    Check.due("30: three of them", x.odds(0, 3, 1, 4, 0), 0);
    Check.due("30: one less", x.odds(0, 4, 1, 3, 0), 1);
    Check.due("30: one seed", x.odds(0, 1, 1, 3, 0), 1);
    Check.due("30: one seed, of one", x.odds(0, 1, 1, 3, 1), 1);
    Check.due("30: half", x.odds(0, 8, 1, 4, 0), 1);
    Check.due("30: of two", x.odds(0, 8, 1, 4, 1), 2);
    Check.due("30: six", x.odds(0, 10, 1, 4, 0), 3);
    Check.due("30: of ten", x.odds(0, 10, 1, 4, 1), 5);
    Check.due("30: three", x.odds(0, 7, 1, 4, 0), 3);
    Check.due("30: of seven", x.odds(0, 7, 1, 4, 1), 7);
    Check.due("30: all but four", x.odds(4, 12, 1, 4, 0), 1);
    Check.due("30: as many", x.odds(4, 12, 1, 5, 0), 0);
    int good = 0;
    for (int i = 0; i < 37; i++) {
      good += x.drawn(900 + i, 7) >= 3 ? 1 : 0;
    }
    Check.due("30: as drawn", x.odds(900, 37, 7, 3, 0), good == 0 || good == 37 ? good / 37 : good);
    // Seed 100000: 100001 times 48271 modulo 2147483647 is 532180977, modulo 16 it is 1.
    x.put(0, 16, 2);
    Check.due("30: past 99999", x.odds(99999, 2, 1, 1, 0), 1);
    Check.due("30: past 99999, of two", x.odds(99999, 2, 1, 1, 1), 2);
    Check.due("30: in thought", x.told(0, 19), 160);
  }

  private static void image() {
    DreamWindows x = new DreamWindows();
    Check.due("32: there is none", x.back(), -3);
    x.sleeper(23, 100, 5);
    x.sleeper(31, 200, 6);
    Check.rule(x, "dulls 1;limit 1;costs 1;");
    x.sleep();
    x.hours(77);
    Check.due("31: how many", x.image(), 2);
    x.sleep();
    x.hours(5);
    x.force(0);
    x.put(0, 16, 101);
    x.put(1, 9, 99);
    x.sleeper(55, 300, 7);
    Check.due("32: how many", x.back(), 2);
    Check.due("32: sleepers", x.count(0), 2);
    Check.due("32: night", x.count(1), 1);
    Check.due("32: minutes", x.count(2), 77);
    Check.due("32: the law", x.count(4), 1);
    Check.due("32: picture", x.told(0, 16), 100);
    Check.due("32: dull", x.told(0, 19), 96);
    Check.due("32: dull, too", x.told(1, 9), 8);
    Check.due("32: kind", x.told(1, 17), 3);
    Check.due("32: the third is none", x.told(2, 16), -5);
    Check.due("32: a new third", x.sleeper(44, 1, 1), 2);
    Check.due("32: is new", x.told(2, 17), 4);
    Check.due("32: once more", x.back(), 2);
    Check.due("31: another", x.image(), 2);
  }

  private static void imageRest() {
    DreamWindows x = new DreamWindows();
    Check.due("31: of nobody", x.image(), 0);
    x.sleeper(0, 1, 1);
    Check.read(x, "dulls 1;limit 1;costs 1;");
    x.feed(1, 'a', 0, 0, 0, 0);
    x.sheet(0, 0, 3);
    Check.due("32: of nobody", x.back(), 0);
    Check.due("32: texts stay", x.count(3), 2);
    Check.due("32: the tape stays", x.count(5), 1);
    Check.due("32: sheets stay", x.cell(0, 2, 1), 1);
    x.sleeper(0, 1, 1);
    x.image();
    x.put(0, 0, 50);
    x.image();
    x.put(0, 0, 60);
    x.back();
    Check.due("31: the last one counts", x.told(0, 0), 50);
    x.put(0, 0, 70);
    x.back();
    Check.due("32: the image stays as it was", x.told(0, 0), 50);
  }
}
