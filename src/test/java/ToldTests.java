/** Promises 23 to 28: told mornings. */
final class ToldTests {
  private ToldTests() {}

  static void all() {
    judge();
    kinds();
    mores();
    dims();
    laws();
    guess();
    film();
  }

  private static void judge() {
    DreamWindows x = new DreamWindows();
    x.sleeper(0, 0x8003, 5);
    x.put(0, 1, 8);
    Check.tell(x, 0);
    Check.due("23: nothing told", x.judge(0, 0), -1);
    Check.tell(x, 0, 0x8003, 0x8001, 0, 0);
    Check.due("23: all right", x.judge(0, 0), -1);
    x.cell(0, 3, 1);
    Check.due("23: the last", x.judge(0, 0), 3);
    x.cell(0, 1, 1);
    Check.due("23: the first that is otherwise", x.judge(0, 0), 1);
    x.cell(0, 0, 0x18003);
    Check.due("23: a bit too many", x.judge(0, 0), 0);
    x.cell(0, 0, 0x8003 | Integer.MIN_VALUE);
    Check.due("23: the highest bit", x.judge(0, 0), 0);
    Check.due("23: in thought", x.told(0, 0), 5);
    DreamWindows y = new DreamWindows();
    y.sleeper(0, 0x00ff, 0);
    y.sheet(0, 0, 1);
    y.cell(0, 0, 0x00ff);
    Check.due("23: a byte's highest bit is its sign", y.judge(0, 0), 0);
    y.put(0, 16, 0x007f);
    y.cell(0, 0, 0x017f);
    Check.due("23: a byte", y.judge(0, 0), -1);
    y.sheet(0, 1, 1);
    y.cell(0, 0, 0x2007f);
    Check.due("23: a short", y.judge(0, 0), -1);
    y.cell(0, 0, 0xffff);
    y.put(0, 16, 0xffff);
    Check.due("23: a short's highest bit is its sign", y.judge(0, 0), 0);
    y.sleep();
    Check.rule(y, "dulls 0;limit (night=2)*3;costs 0;");
    Check.tell(y, 1, 0, 0xffff, 0);
    Check.due("23: from this night on", y.judge(1, 0), -1);
  }

  private static void kinds() {
    DreamWindows x = new DreamWindows();
    x.sleeper(4, 0xffff, 8);
    // 8 now; of a kind, duller by 3; corners by 6; 7 and 10; 0; and 1, NIGHT being 0. Limits 10; 14 of 2 and 4.
    Check.tell(x, 0, 0xffff);
    Check.due("24: by all", x.kinds(0, 0, 0), 63);
    Check.due("24: by all more", x.kinds(0, 0, 1), 1023);
    Check.tell(x, 0, 0xffff, 0);
    Check.due("24: merchant and sleeper", x.kinds(0, 0, 0), 1 << 0 | 1 << 1);
    Check.tell(x, 0, 0xffff, 0xffff);
    Check.due("24: bride, child, manager", x.kinds(0, 0, 0), 1 << 2 | 1 << 4 | 1 << 5);
    Check.tell(x, 0, 0xffff, 0xffff, 0xffff);
    Check.due("24: bride and child", x.kinds(0, 0, 0), 1 << 2 | 1 << 4);
    Check.tell(x, 0, 0xffff, 0xffff, 0xffff, 0);
    Check.due("24: bride", x.kinds(0, 0, 0), 1 << 2);
    Check.tell(x, 0, 0xffff, 0x9009);
    Check.due("24: believer", x.kinds(0, 0, 0), 1 << 3);
    Check.tell(x, 0, 0);
    Check.due("24: none", x.kinds(0, 0, 0), 0);
    Check.due("24: in thought", x.told(0, 17), 0);
    Check.tell(x, 0);
    Check.due("24: nothing told", x.kinds(0, 0, 0), 63);
    x.put(0, 0, 5);
    x.put(0, 16, 1);
    Check.tell(x, 0, 1, 1, 0);
    Check.due("24: sleeper, manager", x.kinds(0, 0, 0), 1 << 0 | 1 << 5);
  }

  private static void mores() {
    DreamWindows x = new DreamWindows();
    x.sleeper(24, 0xffff, 0);
    // Dull 0, 3, 6, .. 15, 18; limits 10 and MORE.
    Check.tell(x, 0, 0xffff, 0xffff, 0xffff, 0xffff, 0xffff, 0);
    Check.due("24: 12 but not 15", x.kinds(0, 0, 1), 1 << 2 | 1 << 3 | 1 << 4);
    Check.tell(x, 0, 0);
    Check.due("24: no more", x.kinds(0, 0, 1), 0);
    Check.due("24: more stays", x.told(0, 18), 4);
    x.sleeper(0, 0xffff, 5);
    Check.rule(x, "dulls 0;limit more;costs 0;");
    Check.tell(x, 0, 0xffff);
    Check.due("24: as the text tells", x.kinds(0, 1, 1), 1023 & ~31);
  }

  private static void dims() {
    DreamWindows x = new DreamWindows();
    x.sleeper(0, 0xfffe, 0);
    Check.tell(x, 0, 0xfffe, 0xfffe, 0xfffe, 0xfffe, 0);
    Check.due("25: not seen anyway", x.dims(0, 0, 0), 100);
    Check.due("25: then 0", x.dims(0, 0, 1), 0);
    Check.due("25: 0 and 1", x.dims(0, 0, 10), 2);
    Check.due("25: 0", x.dims(0, 0, 11), 0);
    Check.tell(x, 0, 0xfffe, 0xfffe, 0x7ffe, 0x7ffe, 0);
    Check.due("25: 5 to 7", x.dims(0, 0, 150), 3);
    Check.due("25: 5", x.dims(0, 0, 151), 5);
    Check.due("25: another one is wrong", x.dims(0, 0, 10), 0);
    Check.due("25: none", x.dims(0, 0, 11), -1);
    Check.tell(x, 0, 0xffff);
    Check.due("25: cell 0 is wrong", x.dims(0, 0, 150), 0);
    Check.tell(x, 0, 0x7ffe);
    Check.due("25: 11 to 99", x.dims(0, 0, 150), 89);
    Check.due("25: 11", x.dims(0, 0, 151), 11);
    Check.tell(x, 0, 0xfffe, 0x1fffe);
    Check.due("25: a bit too many", x.dims(0, 0, 10), 0);
    Check.tell(x, 0, 0xffff);
    Check.due("25: nothing is behind it", x.dims(0, 0, 0), 0);
    Check.tell(x, 0);
    Check.due("25: nothing told", x.dims(0, 0, 150), 100);
    Check.due("25: in thought", x.told(0, 15), 0);
    Check.tell(x, 0, 0x7ffe, 0xfffe);
    Check.due("25: dull, then clear", x.dims(0, 0, 150), 0);
    x.put(0, 16, 0x8000);
    Check.tell(x, 0, 0, 0x8000);
    Check.rule(x, "dulls (column=3)*5;limit 2*dull*(dull<5)+dull*(19<dull);costs 0;");
    Check.due("25: of those between", x.dims(0, 0, 150), 5);
    Check.due("25: least between", x.dims(0, 0, 151), 15);
    x.sleep();
    Check.tell(x, 0, 0x8000);
    x.put(0, 15, 7);
    Check.due("25: how dull it is does not matter", x.dims(0, 0, 150), 5 + 80);
    Check.rule(x, "dulls 10*(night=2);limit 10+20*(night=3)*row;costs 0;");
    Check.tell(x, 0, 0x8000, 0x8000, 0x8000);
    Check.due("25: from this night on", x.dims(0, 0, 150), 11);
    Check.tell(x, 0, 0, 0, 0x8000);
    Check.due("25: from this night on, dull", x.dims(0, 0, 150), 50);
    Check.due("25: the least", x.dims(0, 0, 151), 11);
  }

  private static void laws() {
    DreamWindows x = new DreamWindows();
    x.sleeper(0, 0xffff, 0);
    Check.read(x, "dulls 6;limit 10;costs 0;");
    Check.read(x, "dulls 3;limit 3;costs 0;");
    Check.tell(x, 0, 0xffff);
    Check.due("26: all", x.laws(0, 0), 7);
    Check.tell(x, 0, 0xffff, 0xffff);
    Check.due("26: all still", x.laws(0, 0), 7);
    Check.tell(x, 0, 0xffff, 0xffff, 0);
    Check.due("26: 1 and 2", x.laws(0, 0), 6);
    Check.tell(x, 0, 0xffff, 0xffff, 0xffff);
    Check.due("26: 0", x.laws(0, 0), 1);
    x.force(2);
    Check.due("26: 0, whatever the law is", x.laws(0, 0), 1);
    Check.due("26: the law stays", x.count(4), 2);
    Check.tell(x, 0, 0);
    Check.due("26: none", x.laws(0, 0), 0);
    Check.tell(x, 0, 0xffff, 0xffff, 0);
    Check.due("24: by the law", x.kinds(0, 0, 0) & 1, 1);
    Check.due("23: by the law", x.judge(0, 0), -1);
  }

  private static void guess() {
    DreamWindows x = new DreamWindows();
    x.sleeper(0, 0, 5);
    x.put(0, 3, 11);
    x.put(0, 4, 10);
    Check.tell(x, 0);
    Check.due("27: nothing told", x.guess(0, 0, 0), 0);
    Check.due("27: behind none of none", x.guess(0, 0, 1), 65535);
    Check.tell(x, 0, 1, 0x8010, 0x70000);
    Check.due("27: any number", x.guess(0, 0, 0), 0x8011);
    Check.due("27: clear behind none", x.guess(0, 0, 1), 1 << 3);
    Check.tell(x, 0, -1);
    Check.due("27: all bits", x.guess(0, 0, 0), 65535);
    x.sheet(0, 0, 1);
    x.cell(0, 0, 128);
    Check.due("27: a byte's sign", x.guess(0, 0, 0), 0xff80);
    DreamWindows y = new DreamWindows();
    y.sleeper(0, 0, 1);
    y.put(0, 0, 2);
    Check.rule(y, "dulls (night=0)*column;limit night;costs 0;");
    Check.tell(y, 0, 0, 0);
    Check.due("27: the later night's limit", y.guess(0, 0, 1), 0xffff & ~0x1110);
    Check.tell(y, 0, 0, 0, 0);
    Check.due("27: and one more", y.guess(0, 0, 1), 0xffff & ~0x3333);
    Check.due("27: in thought", y.told(0, 1), 1);
    y.sleep();
    Check.rule(y, "dulls (night=2)*column*9;limit 10*(1<night);costs 0;");
    Check.tell(y, 0, 0, 0);
    Check.due("27: from this night on", y.guess(0, 0, 1), 0);
    Check.tell(y, 0, 0);
    Check.due("27: only this night", y.guess(0, 0, 1), 65535);
    Check.rule(y, "dulls (night=2)*9*column;limit 10*(2<night);costs 0;");
    Check.tell(y, 0, 0, 0, 0);
    Check.due("27: so much duller by then", y.guess(0, 0, 1), 0xeeee);
  }

  private static void film() {
    DreamWindows x = new DreamWindows();
    Check.due("28: sheet", x.film(4, 0, 21), -2);
    Check.due("28: sheet below", x.film(-1, 0, 0), -2);
    Check.due("28: no sleeper, ahead of n", x.film(0, 0, 21), -5);
    x.sleeper(0, 0x8003, 5);
    x.put(0, 1, 8);
    Check.due("28: n", x.film(0, 0, 21), -7);
    Check.due("28: n below", x.film(0, 0, -1), -7);
    Check.due("28: still missing", x.cell(0, 0, 0), -11);
    Check.due("28: four", x.film(0, 0, 4), 4);
    Check.due("28: right", x.judge(0, 0), -1);
    Check.due("28: four numbers", x.cell(0, 4, 0), -12);
    int[] due = {0x8003, 0x8001, 0, 0};
    for (int i = 0; i < 4; i++) {
      x.sheet(1, 2, 1);
      x.copy(0, i, 1, 0, 1);
      Check.due("28: number " + i, x.guess(1, 0, 0), due[i]);
    }
    Check.due("28: ints", x.copy(0, 0, 1, 0, 1), 1);
    Check.due("28: in thought", x.told(0, 0), 5);
    x.sheet(2, 0, 40);
    Check.due("28: twenty on bytes", x.film(2, 0, 20), 20);
    Check.due("28: twenty numbers", x.cell(2, 20, 0), -12);
    Check.due("28: right of all twenty", x.judge(2, 0), -1);
    Check.due("28: none", x.film(2, 0, 0), 0);
    Check.due("28: no number, but there", x.cell(2, 0, 0), -12);
    x.sleep();
    Check.rule(x, "dulls 20*(night=2);limit 10+20*(night=3)*row;costs 0;");
    x.put(0, 1, 10);
    x.film(0, 0, 4);
    int[] later = {0x8003, 0x8003, 0x8000, 0};
    for (int i = 0; i < 4; i++) {
      x.copy(0, i, 1, 0, 1);
      Check.due("28: from this night on " + i, x.guess(1, 0, 0), later[i]);
    }
  }
}
