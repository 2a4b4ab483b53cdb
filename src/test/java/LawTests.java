/** Promises 1 to 10: the law, sleepers. */
final class LawTests {
  private static final String PLAIN = "dulls 3 ; limit 10 ; costs dull ;";

  private LawTests() {}

  static void all() {
    fresh();
    feed();
    text();
    faults();
    force();
    asks();
    values();
    sleeper();
    put();
    told();
  }

  private static void fresh() {
    DreamWindows x = new DreamWindows();
    int[] due = {0, 0, 60, 1, 0, 0};
    for (int what = 0; what < 6; what++) {
      Check.due("1: count " + what, x.count(what), due[what]);
    }
    Check.due("1: no sleeper", x.told(0, 0), -5);
    Check.due("2: below", x.count(-1), -2);
    Check.due("2: above", x.count(6), -2);
    x.sleeper(0, 0, 0);
    x.sleeper(10, 0, 0);
    x.sleep();
    x.hours(7);
    Check.rule(x, PLAIN);
    x.feed(3, 1, 2, 3, 4, 5);
    int[] then = {2, 1, 7, 2, 1, 3};
    for (int what = 0; what < 6; what++) {
      Check.due("2: count then " + what, x.count(what), then[what]);
    }
  }

  private static void feed() {
    DreamWindows x = new DreamWindows();
    Check.due("4: n 0", x.feed(0, 1, 1, 1, 1, 1), -2);
    Check.due("4: n 6", x.feed(6, 1, 1, 1, 1, 1), -2);
    Check.due("4: first", x.feed(1, 256, 1, 1, 1, 1), -2);
    Check.due("4: second", x.feed(1, 1, -1, 1, 1, 1), -2);
    Check.due("4: third", x.feed(1, 1, 1, 256, 1, 1), -2);
    Check.due("4: fourth", x.feed(1, 1, 1, 1, -1, 1), -2);
    Check.due("4: fifth", x.feed(1, 1, 1, 1, 1, 256), -2);
    Check.due("4: nothing came", x.count(5), 0);
    Check.due("4: one", x.feed(1, 255, 0, 0, 0, 255), 1);
    for (int i = 1; i < 32; i++) {
      Check.due("4: five", x.feed(5, 32, 32, 32, 32, 32), 1 + 5 * i);
    }
    Check.due("4: five for four", x.feed(5, 32, 32, 32, 32, 32), -4);
    Check.due("4: none of them came", x.count(5), 156);
    Check.due("4: three", x.feed(3, 32, 32, 32, 32, 32), 159);
    Check.due("4: two for one", x.feed(2, 32, 32, 32, 32, 32), -4);
    Check.due("4: the last one", x.feed(1, 32, 32, 32, 32, 32), 160);
    Check.due("4: none more", x.feed(1, 32, 32, 32, 32, 32), -4);
    Check.due("4: bad ahead of full", x.feed(5, 32, 32, 32, 32, 256), -2);
    Check.due("4: the first byte came first", x.text(), -100);
  }

  private static void order(int n) {
    DreamWindows x = new DreamWindows();
    x.sleeper(0, 0, 0);
    Check.feed(x, "dulls ");
    x.feed(n, '1', '2', '3', '4', ';');
    Check.feed(x, n == 5 ? "limit 1;costs 1;" : ";limit 1;costs 1;");
    x.text();
    x.force(1);
    Check.due("4: in their order, " + n, x.asks(0, 0, 0), n == 1 ? 1 : n == 2 ? 12 : 50);
  }

  private static void text() {
    for (int n = 1; n <= 5; n++) {
      order(n);
    }
    DreamWindows x = new DreamWindows();
    for (int t = 1; t <= 5; t++) {
      Check.due("5: its number", Check.read(x, PLAIN), t);
      Check.due("5: the tape is empty then", x.count(5), 0);
      Check.due("5: one more", x.count(3), t + 1);
    }
    x.feed(1, '?', 0, 0, 0, 0);
    Check.due("5: full ahead of the fault", x.text(), -4);
    Check.due("5: then the tape stays", x.count(5), 1);
    Check.due("5: not the law", x.count(4), 0);
  }

  /** What is told of a text, each on a new object; the tape is empty then. */
  private static void fault(String text, int place) {
    DreamWindows x = new DreamWindows();
    Check.due("5: " + text, Check.read(x, text), place < 0 ? 1 : -100 - place);
    Check.due("5: the tape behind " + text, x.count(5), 0);
    Check.due("5: texts behind " + text, x.count(3), place < 0 ? 2 : 1);
  }

  private static void faults() {
    fault("", 0);
    fault("   ", 3);
    fault(PLAIN, -1);
    fault("dulls3;limit10;costs dull;", -1);
    fault("\n dulls\n3 ;limit 10;costs dull; \n ", -1);
    fault("dulls 3 ; limit 10 ; costs dull", 31);
    fault("dulls 3 ; limit 10 ; costs dull  ", 33);
    fault("dulls 3 ; limit 10 ;", 20);
    fault("dulls", 5);
    fault("limit 10 ; dulls 3 ; costs dull ;", 0);
    fault("dulls 3 ; costs dull ; limit 10 ;", 10);
    fault("dulls 3 ; limit 10 ; limit 10 ;", 21);
    fault("dulls ; limit 10 ; costs dull ;", 6);
    fault("dulls 3 4; limit 10 ; costs dull ;", 8);
    fault("dulls 3 ; limit 10 ; costs dull ; ;", 34);
    fault("dulls 3 ; limit 10 ; costs dull ;dulls", 33);
    fault("dulls 3 ; limit 10 ; costs dull ; ?", 34);
    fault("Dulls 3", 0);
    fault("dulls 3 \t; limit", 8);
    fault("dulls 3 \r; limit", 8);
    fault("dulls {3}", 6);
    fault("dulls `3", 6);
    fault("dulls 3 / 2;", 8);
    fault("dulls 3 : 2;", 8);
    fault("dulls 3 > 2;", 8);
    fault("dulls 3 , 2;", 8);
    fault("dulls " + (char) 0 + ";", 6);
    fault("dulls " + (char) 255 + ";", 6);
    fault("dulls dul ;", 6);
    fault("dulls dulll ;", 6);
    fault("dulls dullz ;", 6);
    fault("dulls adull ;", 6);
    fault("dulls dulls ;", 6);
    fault("dull 3 ;", 0);
    fault("dulls columnrow ;", 6);
    fault("dulls 9999 ; limit 10 ; costs dull ;", -1);
    fault("dulls 10000 ; limit 10 ; costs dull ;", 6);
    fault("dulls 00001 ; limit 10 ; costs dull ;", 6);
    fault("dulls 1 + 123456789012 ;", 10);
    fault("dulls 12row ;", 8);
    fault("dulls 1 + ;", 10);
    fault("dulls 1 * ;", 10);
    fault("dulls + 1 ;", 6);
    fault("dulls 1 < 2 < 3 ;", 12);
    fault("dulls 1 = 2 = 3 ;", 12);
    fault("dulls 1 < 2 = 3 ;", 12);
    fault("dulls 1 < < 2 ;", 10);
    fault("dulls 1 + not 2 ;", 10);
    fault("dulls 1 < not 2 ;", 10);
    fault("dulls - not 2 ;", 8);
    fault("dulls 1 or ;", 11);
    fault("dulls 1 and or 2 ;", 12);
    fault("dulls or 1 ;", 6);
    fault("dulls not ;", 10);
    fault("dulls ( 1 ;", 10);
    fault("dulls 1 ) ;", 8);
    fault("dulls ( ) ;", 8);
    fault("dulls (1 or 2) 3 ;", 15);
    fault("dulls(not 1)+(2 or 3)*-(4<5);limit not not 1<2 and 3=4 or 5;costs----1;", -1);
    fault("dulls ?????", 6);
  }

  private static void force() {
    DreamWindows x = new DreamWindows();
    Check.due("6: only 0", x.force(1), -2);
    Check.due("6: below", x.force(-1), -2);
    Check.due("6: which was", x.force(0), 0);
    Check.read(x, "dulls 1; limit 2; costs 3;");
    Check.read(x, "dulls 4; limit 5; costs 6;");
    x.sleeper(0, 1, 0);
    Check.due("6: to 2", x.force(2), 0);
    Check.due("6: is the law", x.asks(1, 0, 0), 5);
    Check.due("6: to 1", x.force(1), 2);
    Check.due("6: none such", x.force(3), -2);
    Check.due("6: stays", x.asks(1, 0, 0), 2);
    Check.due("6: to 0", x.force(0), 1);
  }

  private static void asks() {
    DreamWindows x = new DreamWindows();
    Check.due("7: no sleeper", x.asks(0, 0, 0), -2);
    x.sleeper(17, 1 << 6, 42);
    Check.due("7: dulls", x.asks(0, 0, 0), 3);
    Check.due("7: limit", x.asks(1, 0, 0), 10);
    Check.due("7: costs", x.asks(2, 0, 0), 42);
    Check.due("7: part", x.asks(3, 0, 0), -2);
    Check.due("7: part below", x.asks(-1, 0, 0), -2);
    Check.due("7: sleeper", x.asks(0, 1, 0), -2);
    Check.due("7: sleeper below", x.asks(0, -1, 0), -2);
    Check.due("7: cell", x.asks(0, 0, 16), -2);
    Check.due("7: cell below", x.asks(0, 0, -1), -2);
    Check.rule(x, "dulls 51; limit 100; costs 9999;");
    Check.due("7: dulls at most", x.asks(0, 0, 0), 50);
    Check.due("7: limit at most", x.asks(1, 0, 0), 99);
    Check.due("7: costs at most", x.asks(2, 0, 0), 99);
    Check.rule(x, "dulls -1; limit 0-1; costs -99;");
    Check.due("7: dulls at least", x.asks(0, 0, 0), 0);
    Check.due("7: limit at least", x.asks(1, 0, 0), 0);
    Check.due("7: costs at least", x.asks(2, 0, 0), 0);
    Check.rule(x, "dulls column*10+row; limit dull; costs night*50+more*2+behind;");
    Check.due("7: column and row", x.asks(0, 0, 6), 21);
    Check.due("7: column and row of another one", x.asks(0, 0, 13), 13);
    Check.due("7: dull", x.asks(1, 0, 6), 42);
    Check.due("7: more and behind", x.asks(2, 0, 6), 15);
    Check.due("7: nothing behind", x.asks(2, 0, 7), 14);
    x.sleep();
    Check.due("7: night", x.asks(2, 0, 7), 64);
  }

  /** What an E is worth, asked as a limit, and less it as costs. */
  private static void worth(String e, int due) {
    DreamWindows x = new DreamWindows();
    x.sleeper(9, 0, 5);
    Check.rule(x, "dulls 1;limit " + e + ";costs 0-(" + e + ");");
    Check.due("7: " + e, x.asks(1, 0, 0), Math.max(0, Math.min(99, due)));
    Check.due("7: less " + e, x.asks(2, 0, 0), Math.max(0, Math.min(99, -due)));
  }

  private static void values() {
    worth("2+3*4", 14);
    worth("(2+3)*4", 20);
    worth("20-3-4", 13);
    worth("20-(3-4)", 21);
    worth("-2*-3", 6);
    worth("-2-3", -5);
    worth("--7", 7);
    worth("-(2+3)", -5);
    worth("1<2", 1);
    worth("2<2", 0);
    worth("3<2", 0);
    worth("2=2", 1);
    worth("2=3", 0);
    worth("1+1<1*3", 1);
    worth("not 0", 1);
    worth("not 5", 0);
    worth("not -5", 0);
    worth("not not 7", 1);
    worth("not 1<2", 0);
    worth("not 2<1", 1);
    worth("7 or 0", 1);
    worth("0 or 0", 0);
    worth("0 or 0-3", 1);
    worth("7 and 5", 1);
    worth("7 and 0", 0);
    worth("0 and 7", 0);
    worth("1 or 0 and 0", 1);
    worth("(1 or 0) and 0", 0);
    worth("not 0 and 0", 0);
    worth("not (0 and 0)", 1);
    worth("0 or 0 or 3", 1);
    worth("1 and 2 and 3", 1);
    worth("5 + (3 or 0)", 6);
    worth("0007+0080", 87);
    worth("more*more+dull", 86);
    worth("9999*9999*9999", 9999 * 9999 * 9999);
    worth("9999*9999*43+17", 9999 * 9999 * 43 + 17);
    worth("0<9999*9999*22", 0);
    mostWaiting();
  }

  /** As many numbers wait for what joins them as ever can: five ahead of each ( and of the last number. */
  private static void mostWaiting() {
    String five = "0or 1and 0<0+1*";
    String e = five + "(" + five + "(" + five + "(" + five + "(" + five + "(" + five + "dull)))))";
    DreamWindows x = new DreamWindows();
    x.sleeper(0, 0, 0);
    x.put(0, 1, 3);
    Check.rule(x, "dulls 1;limit " + e + ";costs 1;");
    Check.due("7: 31 wait for 0", x.asks(1, 0, 0), 0);
    Check.due("7: 31 wait for 3", x.asks(1, 0, 1), 1);
  }

  private static void sleeper() {
    DreamWindows x = new DreamWindows();
    Check.due("8: kind and more", x.sleeper(60, 0, 0), -2);
    Check.due("8: kind and more below", x.sleeper(-1, 0, 0), -2);
    Check.due("8: picture", x.sleeper(0, 65536, 0), -2);
    Check.due("8: picture below", x.sleeper(0, -1, 0), -2);
    Check.due("8: dullness", x.sleeper(0, 0, 100), -2);
    Check.due("8: dullness below", x.sleeper(0, 0, -1), -2);
    Check.due("8: none came", x.count(0), 0);
    for (int s = 0; s < 6; s++) {
      Check.due("8: number", x.sleeper(11 * s + (s == 5 ? 4 : 0), s == 5 ? 65535 : 7 * s, s == 5 ? 99 : 9 * s), s);
    }
    Check.due("8: full", x.sleeper(0, 0, 0), -4);
    Check.due("8: bad ahead of full", x.sleeper(0, 0, 100), -2);
    for (int s = 0; s < 6; s++) {
      Check.due("8: kind", x.told(s, 17), s);
    }
    Check.due("8: more", x.told(5, 18), 9);
    Check.due("8: picture is", x.told(5, 16), 65535);
    Check.due("8: together", x.told(5, 19), 1584);
    Check.due("8: more of 3", x.told(3, 18), 3);
  }

  private static void put() {
    DreamWindows x = new DreamWindows();
    Check.due("9: no sleeper, ahead of what", x.put(0, 17, 0), -5);
    x.sleeper(0, 77, 5);
    Check.due("9: below", x.put(-1, 0, 0), -5);
    Check.due("9: above", x.put(1, 0, 0), -5);
    Check.due("9: what", x.put(0, 17, 0), -7);
    Check.due("9: what below", x.put(0, -1, 0), -7);
    Check.due("9: too dull", x.put(0, 0, 100), -7);
    Check.due("9: below dull", x.put(0, 15, -1), -7);
    Check.due("9: no picture", x.put(0, 16, 65536), -7);
    Check.due("9: picture below", x.put(0, 16, -1), -7);
    Check.due("9: cell", x.put(0, 15, 99), 5);
    Check.due("9: cell again", x.put(0, 15, 0), 99);
    Check.due("9: another cell", x.put(0, 3, 8), 5);
    Check.due("9: picture", x.put(0, 16, 65535), 77);
    Check.due("9: picture again", x.put(0, 16, 100), 65535);
    Check.due("9: only that", x.told(0, 19), 14 * 5 + 8);
  }

  private static void told() {
    DreamWindows x = new DreamWindows();
    Check.due("10: no sleeper, ahead of what", x.told(0, 20), -5);
    x.sleeper(47, 4321, 6);
    for (int c = 0; c < 16; c++) {
      x.put(0, c, c + 1);
    }
    for (int c = 0; c < 16; c++) {
      Check.due("10: cell " + c, x.told(0, c), c + 1);
    }
    Check.due("10: picture", x.told(0, 16), 4321);
    Check.due("10: kind", x.told(0, 17), 4);
    Check.due("10: more", x.told(0, 18), 7);
    Check.due("10: together", x.told(0, 19), 136);
    Check.due("10: what", x.told(0, 20), -7);
    Check.due("10: what below", x.told(0, -1), -7);
    Check.due("10: below", x.told(-1, 0), -5);
    Check.due("10: above", x.told(1, 0), -5);
  }
}
