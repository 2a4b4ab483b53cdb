/** Boundary cases of texts: how they are read (promise 5), and what they say (promise 7). */
final class TextEdges {
  private static final String PLAIN = "dulls 3 ; limit 10 ; costs dull ;";
  private static final String REST = ";limit 1;costs 1;";

  private TextEdges() {}

  /** A text on a new object has its FAULT there. */
  private static void fault(String text, int place) {
    Check.due("the fault of \"" + text + "\"", Check.read(new DreamWindows(), text), -100 - place);
  }

  /** The FAULT is where the text has a # , which isn't part of it. */
  private static void faultAt(String marked) {
    fault(marked.replace("#", ""), marked.indexOf('#'));
  }

  private static void well(String text) {
    Check.due("\"" + text + "\"", Check.read(new DreamWindows(), text), 1);
  }

  private static String filled(String text, int size) {
    return text + " ".repeat(size - text.length());
  }

  // ---- 5: THE TAPE and the numbers of TEXTS

  @Edge("THE TAPE, which is empty then (by a FAULT, too), is a TEXT: its number;")
  static void promise5TheTapeIsEmptyThen() {
    DreamWindows x = new DreamWindows();
    Check.due("its number", Check.read(x, PLAIN), 1);
    Check.due("bytes", x.count(5), 0);
    Check.due("nothing is on it", x.text(), -100);
  }

  @Edge("is a TEXT: its number;")
  static void promise5ATextIsNotTheLawYet() {
    DreamWindows x = new DreamWindows();
    x.sleeper(0, 0, 0);
    Check.due("its number", Check.read(x, "dulls 7;limit 8;costs 9;"), 1);
    Check.due("THE LAW", x.count(4), 0);
    Check.due("still dulls", x.asks(0, 0, 0), 3);
    x.force(1);
    Check.due("the next one's number", Check.read(x, PLAIN), 2);
    Check.due("THE LAW stays", x.count(4), 1);
    Check.due("now dulls", x.asks(0, 0, 0), 7);
  }

  @Edge("THE TAPE, which is empty then (by a FAULT, too), is a TEXT: its number;")
  static void promise5NothingOfALongerTextStaysOnTheTape() {
    DreamWindows x = new DreamWindows();
    Check.read(x, "dullsdulls 12345 or row ;;;;;");
    Check.due("a word", Check.read(x, "dulls"), -105);
    Check.due("a number behind it", Check.read(x, "dulls    1234"), -113);
    Check.due("all words", Check.read(x, "a".repeat(160)), -100);
    Check.due("a word alone", Check.read(x, "dulls not dull"), -114);
    Check.due("all digits", Check.read(x, "dulls " + "1".repeat(154)), -106);
    Check.due("a number alone", Check.read(x, "dulls 1234"), -110);
    Check.due("blanks", Check.read(x, "    "), -104);
  }

  @Edge("THE TAPE, which is empty then (by a FAULT, too), is a TEXT: its number;")
  static void promise5TheTapeIsEmptyByAFaultToo() {
    DreamWindows x = new DreamWindows();
    Check.due("a fault", Check.read(x, "dulls 3 ; ? ; costs dull ;"), -110);
    Check.due("bytes", x.count(5), 0);
    Check.due("no text came", x.count(3), 1);
    Check.due("the next one", Check.read(x, PLAIN), 1);
  }

  @Edge({"-100 less the place of its FAULT.", "(the text's size, if it ends too early)"})
  static void promise5EmptyTape() {
    Check.due("nothing", new DreamWindows().text(), -100);
    DreamWindows x = new DreamWindows();
    x.text();
    Check.due("nothing again", x.text(), -100);
    Check.due("no text came", x.count(3), 1);
  }

  @Edge("TEXTS are numbered from 0 on, 6 at most;")
  static void promise5SixTextsAtMost() {
    DreamWindows x = new DreamWindows();
    for (int t = 1; t <= 5; t++) {
      Check.due("its number", Check.read(x, PLAIN), t);
      Check.due("so many", x.count(3), t + 1);
    }
    Check.due("the seventh", Check.read(x, PLAIN), -4);
    Check.due("six", x.count(3), 6);
  }

  @Edge("FULL (ahead of the FAULT; then THE TAPE stays).")
  static void promise5FullAheadOfTheFault() {
    DreamWindows x = new DreamWindows();
    for (int t = 1; t <= 5; t++) {
      Check.read(x, PLAIN);
    }
    Check.due("of an empty tape", x.text(), -4);
    Check.due("of a wrong byte", Check.read(x, "?"), -4);
  }

  @Edge("FULL (ahead of the FAULT; then THE TAPE stays).")
  static void promise5TheTapeStaysThen() {
    DreamWindows x = new DreamWindows();
    for (int t = 1; t <= 5; t++) {
      Check.read(x, PLAIN);
    }
    Check.due("full", Check.read(x, PLAIN), -4);
    Check.due("its bytes", x.count(5), PLAIN.length());
    Check.due("come behind", x.feed(1, 32, 0, 0, 0, 0), PLAIN.length() + 1);
    Check.due("full again", x.text(), -4);
    Check.due("its bytes again", x.count(5), PLAIN.length() + 1);
  }

  @Edge("A TEXT is read from THE TAPE (160 bytes at most).")
  static void promise5LongestText() {
    well(filled(PLAIN, 160));
    well(filled("", 160 - PLAIN.length()) + PLAIN);
    fault(filled("dulls 3 ; limit 10 ; costs dull", 160), 160);
    fault(filled(PLAIN, 159) + "?", 159);
    fault(filled("", 160), 160);
  }

  // ---- 5: TOKENS

  @Edge({"also of a byte that begins none,", "blanks (32, 10) may stand between."})
  static void promise5EachByteByItself() {
    for (int b = 0; b <= 255; b++) {
      boolean goesOn = b == ' ' || b == '\n' || b == '(' || b == '-' || b >= '0' && b <= '9';
      fault("dulls " + (char) b, goesOn ? 7 : 6);
    }
  }

  @Edge({"also of a byte that begins none,", "SIGNS ( ) ; + - * < = ;"})
  static void promise5EachByteWhereASignMayStand() {
    for (int b = 0; b <= 255; b++) {
      boolean goesOn = b == ' ' || b == '\n' || b == ';' || "+-*<=".indexOf(b) >= 0;
      fault("dulls 1 " + (char) b, goesOn ? 9 : 8);
    }
  }

  @Edge("also of a byte that begins none,")
  static void promise5AByteThatBeginsNoneBehindTheEnd() {
    faultAt(PLAIN + "#?");
    faultAt(PLAIN + " \n #" + (char) 0);
  }

  @Edge({"TOKENS, each as long as can be:", "WORDS (as many letters a .. z as stand there)"})
  static void promise5WordsAreAsLongAsCanBe() {
    faultAt("#dullss 3;");
    faultAt("dulls #nightnight;");
    faultAt("dulls #notrow;");
    faultAt("dulls 1 #orrow;");
    faultAt("#dull 3;");
    faultAt("dulls #mor;");
    faultAt("dulls #a;");
    faultAt("dulls #rowz;");
    faultAt("dulls #arow;");
    faultAt("dulls #z");
    well("dulls3;limit-row;costs(more);");
  }

  @Edge("WORDS (as many letters a .. z as stand there)")
  static void promise5LettersBesideAAndZ() {
    faultAt("dulls row#`;");
    faultAt("dulls row#{;");
    faultAt("dulls row#A;");
    faultAt("dulls row#Z;");
    faultAt("#Dulls 3;");
  }

  @Edge({"NUMBERS (as many digits as stand there; more than 4 are too long)", "a NUMBER that is too long,"})
  static void promise5FourDigitsAtMost() {
    well("dulls 9999" + REST);
    well("dulls 0000" + REST);
    faultAt("dulls #10000" + REST);
    faultAt("dulls #00000" + REST);
    faultAt("dulls 1+#12345" + REST);
    faultAt("dulls 1*#" + "9".repeat(80) + REST);
    faultAt("dulls #99999");
  }

  @Edge("NUMBERS (as many digits as stand there; more than 4 are too long)")
  static void promise5DigitsBeside0And9() {
    faultAt("dulls 0#/;");
    faultAt("dulls 9#:;");
    faultAt("dulls 1234 #5;");
    faultAt("dulls 12#row;");
    faultAt("dulls row#5;");
  }

  @Edge("blanks (32, 10) may stand between.")
  static void promise5NoOtherBlanks() {
    well("\n \n dulls\n\n3\n;\nlimit 10 ;costs  dull;\n ");
    for (char c : new char[] {0, 9, 11, 12, 13, 31, 127, 160}) {
      faultAt("dulls 3 #" + c + REST);
    }
  }

  @Edge("of a WORD that is neither KEY nor NAME,")
  static void promise5NeitherKeyNorName() {
    faultAt("dulls #light" + REST);
    faultAt("dulls 3 #andor 4" + REST);
    faultAt("dulls 3;#limits 1;");
    faultAt("#e");
    faultAt("dulls #columns" + REST);
    faultAt("dulls 1-#light 2" + REST);
    faultAt("dulls 1+#light 2" + REST);
    faultAt("dulls 1*#light 2" + REST);
    faultAt("dulls 1<#light 2" + REST);
    faultAt("dulls -#light 2" + REST);
    faultAt("dulls not #light 2" + REST);
    faultAt("dulls (#light 2)" + REST);
    faultAt("dulls 1 or #light 2" + REST);
    faultAt("dulls (1)#light" + REST);
    faultAt("dulls 1 #light" + REST);
    faultAt(PLAIN + "#light");
    well("dulls column+row+dull+night+more+behind" + REST);
  }

  // ---- 5: what can't stand there

  @Edge({"FAULT: the place of the first byte of the first TOKEN that can't stand there",
      "(the text's size, if it ends too early)"})
  static void promise5EndsTooEarly() {
    StringBuilder text = new StringBuilder();
    for (String token : "dulls 3 or ( 1 ) ; limit - 5 ; costs not dull < 7".split(" ")) {
      fault(text.toString(), text.length());
      text.append(token);
      fault(text.toString(), text.length());
      text.append(' ');
    }
    fault(text.toString(), text.length());
    well(text + ";");
  }

  @Edge("TEXT: dulls E ; limit E ; costs E ;")
  static void promise5PartsInTheirOrderAndNoMore() {
    faultAt("#limit 1;dulls 1;costs 1;");
    faultAt("dulls 1;#costs 1;limit 1;");
    faultAt("dulls 1;limit 1;#limit 1;");
    faultAt("dulls 1;limit 1;costs 1;#dulls 1;");
    faultAt("dulls 1;limit 1;costs 1;#;");
    faultAt("dulls 1;limit 1;costs 1;#5");
    faultAt("dulls 1;limit 1;costs 1;#row");
    faultAt("dulls 1;limit 1;costs 1;#-");
    faultAt("dulls 1;limit 1;costs 1;#(");
    faultAt("dulls 1;limit 1;costs 1;#)");
    faultAt("dulls 1;limit 1;costs 1;#or 1;");
    faultAt("dulls 1;limit 1;costs 1;#12345");
    faultAt("dulls 1;#;limit 1;costs 1;");
    faultAt("dulls #;limit 1;costs 1;");
    faultAt("#;");
    faultAt("dulls #limit 1;");
  }

  @Edge({"E: AND { or AND }.", "AND: NOT { and NOT }.", "NOT: not NOT, or SUM, perhaps < or = and a SUM."})
  static void promise5WhatOrAndNotAndCompareTake() {
    faultAt("dulls 1<2#<3" + REST);
    faultAt("dulls 1=2#=3" + REST);
    faultAt("dulls 1<2#=3" + REST);
    faultAt("dulls 1<#not 2" + REST);
    faultAt("dulls 1 or #or 2" + REST);
    faultAt("dulls 1 and #or 2" + REST);
    faultAt("dulls #and 1" + REST);
    faultAt("dulls not #;");
    faultAt("dulls 1 #not 2" + REST);
    well("dulls not 1<2 and 3=4 or not not 5<6" + REST);
  }

  @Edge({"SUM: TERM { + or - TERM }.", "TERM: ONE { * ONE }.", "ONE: a NUMBER, a NAME, - ONE, ( E )."})
  static void promise5WhatSumsAndTermsTake() {
    faultAt("dulls 1+#+2" + REST);
    faultAt("dulls #+1" + REST);
    faultAt("dulls 1*#*2" + REST);
    faultAt("dulls 1+#not 2" + REST);
    faultAt("dulls -#not 2" + REST);
    faultAt("dulls 1*#;");
    faultAt("dulls (#)" + REST);
    faultAt("dulls (1#;");
    faultAt("dulls 1#)" + REST);
    faultAt("dulls (1)#(2)" + REST);
    well("dulls 1--2+-3*-(4)" + REST);
  }

  // ---- 5: 5 open

  @Edge("a ( , a not, a - ahead of a ONE while 5 of these are open")
  static void promise5FiveParenthesesOpen() {
    well("dulls (((((1)))))" + REST);
    faultAt("dulls (((((#(1))))))" + REST);
  }

  @Edge("a ( , a not, a - ahead of a ONE while 5 of these are open")
  static void promise5FiveNotsOpen() {
    well("dulls not not not not not 1" + REST);
    faultAt("dulls not not not not not #not 1" + REST);
  }

  @Edge("a ( , a not, a - ahead of a ONE while 5 of these are open")
  static void promise5FiveMinusesOpen() {
    well("dulls -----1" + REST);
    faultAt("dulls -----#-1" + REST);
  }

  @Edge("a ( , a not, a - ahead of a ONE while 5 of these are open")
  static void promise5FiveOfAllThreeOpen() {
    well("dulls not (not -(1))" + REST);
    faultAt("dulls not (not -(#-1))" + REST);
    faultAt("dulls not (not -(#(1)))" + REST);
    well("dulls not (not (not 1))" + REST);
    faultAt("dulls not (not (not #(1)))" + REST);
    faultAt("dulls (not (not (#not 1)))" + REST);
    faultAt("dulls -(-(-#(1)))" + REST);
  }

  @Edge("a ( , a not, a - ahead of a ONE while 5 of these are open")
  static void promise5TheFaultOfFiveOpenIsToldAheadOfLaterOnes() {
    faultAt("dulls (((((#( ?");
    faultAt("dulls (((((#-");
    faultAt("dulls not not not not not #(");
    faultAt("dulls (((((#+1");
  }

  @Edge("(a ( till its ) , not and - till what they belong to ends).")
  static void promise5AParenthesisIsOpenTillItsEnd() {
    well("dulls (((((1)))))+(((((2)))))*(((((3)))))" + REST);
    well("dulls ((((1)+(2))))" + REST);
    well("dulls ((((1<(2)))))" + REST);
    faultAt("dulls (((((1)+(2))+(3)+((#(4))))))" + REST);
    faultAt("dulls (((((1+#(2))))))" + REST);
    faultAt("dulls (((((1 or 2 and 3<4-5*#(6))))))" + REST);
    well("dulls (((((1)))));limit (((((1)))));costs (((((1)))));");
  }

  @Edge("(a ( till its ) , not and - till what they belong to ends).")
  static void promise5NotIsOpenTillItsNotEnds() {
    well("dulls not not not not not 1 and not not not not not 2 or not not not not not 3" + REST);
    faultAt("dulls not not not not not 1<#(2)" + REST);
    faultAt("dulls not not not not not 1+#(2)" + REST);
    faultAt("dulls not not not not not 1=2*#-3" + REST);
    well("dulls not not not not not 1-2 and (3)" + REST);
    well("dulls not not not not 1<-2" + REST);
    well("dulls not not not not not 1 or (((((2)))))" + REST);
  }

  @Edge("(a ( till its ) , not and - till what they belong to ends).")
  static void promise5MinusIsOpenTillItsOneEnds() {
    well("dulls -----1+-----2--(-(-3))*-----4" + REST);
    well("dulls -----1*(((((2)))))" + REST);
    well("dulls -(-(-1)*-(-2))" + REST);
    faultAt("dulls -(-(-1)*-(-#-2))" + REST);
  }

  @Edge("a ( , a not, a - ahead of a ONE while 5 of these are open")
  static void promise5AMinusBetweenTermsIsNotOpen() {
    well("dulls (((((1-2)))))" + REST);
    well("dulls not not not not not 1-2-3-4-5-6-7" + REST);
    faultAt("dulls (((((1-#-2)))))" + REST);
  }

  // ---- 7: bounds

  private static void says(String e, int dulls, int limit, int costs) {
    DreamWindows x = Check.by("dulls " + e + ";limit " + e + ";costs " + e + ";");
    x.sleeper(0, 0, 5);
    Check.due("dulls " + e, x.asks(0, 0, 0), dulls);
    Check.due("limit " + e, x.asks(1, 0, 0), limit);
    Check.due("costs " + e, x.asks(2, 0, 0), costs);
  }

  @Edge("(dulls 0 .. 50, limit, costs 0 .. 99, else the bound)")
  static void promise7From0To50AndTo99() {
    says("0", 0, 0, 0);
    says("1", 1, 1, 1);
    says("50", 50, 50, 50);
    says("98", 50, 98, 98);
    says("99", 50, 99, 99);
  }

  @Edge("(dulls 0 .. 50, limit, costs 0 .. 99, else the bound)")
  static void promise7ElseTheBound() {
    says("-1", 0, 0, 0);
    says("51", 50, 51, 51);
    says("100", 50, 99, 99);
    says("-9999*9999", 0, 0, 0);
    says("9999*9999", 50, 99, 99);
  }

  // ---- 7: what an E is

  private static final String MOST = "(9999*9999*21+4790*9999+8416)";

  /** 1 if it is so. */
  private static void so(String e, int due) {
    DreamWindows x = Check.by("dulls " + e + REST);
    x.sleeper(0, 0, 0);
    Check.due(e, x.asks(0, 0, 0), due);
  }

  @Edge("An E is an int (32 bits, wrapping):")
  static void promise7SumsWrap() {
    so("0<" + MOST, 1);
    so(MOST + "+1<0", 1);
    so(MOST + "+1-1=" + MOST, 1);
    so("-" + MOST + "-1<0", 1);
    so("-" + MOST + "-2=" + MOST, 1);
  }

  @Edge("An E is an int (32 bits, wrapping):")
  static void promise7ProductsWrap() {
    so(MOST + "*2", 0);
    so(MOST + "*2+9", 7);
    so(MOST + "*-2", 2);
    // 2 to the 16th, four times: nothing is left of it.
    so("(8192*8)*(8192*8)", 0);
    so("(8192*8)*(8192*4)<0", 1);
  }

  @Edge("An E is an int (32 bits, wrapping):")
  static void promise7TheLeastIntStaysSoByMinus() {
    so("-(" + MOST + "+1)<0", 1);
    so("-(" + MOST + "+1)=" + MOST + "+1", 1);
  }

  @Edge("of or, and, not, <, = 1 or 0 (what is not 0 is true).")
  static void promise7WhatIsNot0IsTrue() {
    so("0-1 or 0", 1);
    so("0 or 0", 0);
    so("7 and 0-7", 1);
    so("7 and 0", 0);
    so("not 2", 0);
    so("not -1", 0);
    so("not 0", 1);
    so("(8192*8)*(8192*8) or 0", 0);
    so("(8192*8)*(8192*4) and 1", 1);
  }

  @Edge("of or, and, not, <, = 1 or 0 (what is not 0 is true).")
  static void promise7ExactlyOneOrExactly0() {
    String[] pairs = {
      "0 0", "0 1", "1 0", "1 1", "0 (0-1)", "(0-1) 0", "(0-1) (0-1)", "7 1", "1 7", "7 7", "0 7", "7 0"
    };
    int[] or = {0, 1, 1, 1, 1, 1, 1, 1, 1, 1, 1, 1};
    int[] and = {0, 0, 0, 1, 0, 0, 1, 1, 1, 1, 0, 0};
    int[] less = {0, 1, 0, 0, 0, 1, 0, 0, 1, 0, 1, 0};
    int[] like = {1, 0, 0, 1, 0, 0, 1, 0, 0, 1, 0, 0};
    for (int i = 0; i < pairs.length; i++) {
      so("20+(" + pairs[i].replace(" ", " or ") + ")", 20 + or[i]);
      so("20+(" + pairs[i].replace(" ", " and ") + ")", 20 + and[i]);
      so("20+(" + pairs[i].replace(" ", "<") + ")", 20 + less[i]);
      so("20+(" + pairs[i].replace(" ", "=") + ")", 20 + like[i]);
    }
    so("20+(not 0)", 21);
    so("20+(not 1)", 20);
    so("20+(not 7)", 20);
    so("20+(not -1)", 20);
    so("20+(not not 7)", 21);
  }

  @Edge("of or, and, not, <, = 1 or 0 (what is not 0 is true).")
  static void promise7LikeNumbersAreNotLess() {
    so("5<5", 0);
    so("4<5", 1);
    so("5<4", 0);
    so("-5<-4", 1);
    so("5=5", 1);
    so("5=4", 0);
  }

  // ---- 7: of which CELL

  @Edge({"CELL modulo 4 is the COLUMN, CELL by 4 (cut) the ROW.", "of a CELL of a SLEEPER's: column, row;"})
  static void promise7ColumnAndRowOfEveryCell() {
    DreamWindows x = Check.by("dulls 0;limit column;costs row;");
    x.sleeper(0, 0, 0);
    for (int c = 0; c < 16; c++) {
      Check.due("column of " + c, x.asks(1, 0, c), c % 4);
      Check.due("row of " + c, x.asks(2, 0, c), c / 4);
    }
  }

  @Edge({"night: NIGHT; more: MORE;", "behind: 1, if there is something behind it, else 0."})
  static void promise7NightMoreAndBehindOfTheEnds() {
    DreamWindows x = Check.by("dulls behind;limit more;costs night;");
    x.sleeper(0, 1, 0);
    x.sleeper(9, 1 << 15, 0);
    Check.due("something behind 0", x.asks(0, 0, 0), 1);
    Check.due("nothing behind 15", x.asks(0, 0, 15), 0);
    Check.due("nothing behind 0", x.asks(0, 1, 0), 0);
    Check.due("something behind 15", x.asks(0, 1, 15), 1);
    Check.due("MORE 0", x.asks(1, 0, 0), 0);
    Check.due("MORE 9", x.asks(1, 1, 0), 9);
    Check.due("NIGHT 0", x.asks(2, 0, 0), 0);
    x.sleep();
    Check.due("NIGHT 1", x.asks(2, 0, 0), 1);
  }

  @Edge("dull: how DULL it is;")
  static void promise7DullFrom0To99() {
    DreamWindows x = Check.by("dulls 0;limit dull;costs 99-dull;");
    x.sleeper(0, 1, 0);
    x.put(0, 15, 99);
    Check.due("0", x.asks(1, 0, 0), 0);
    Check.due("99 less 0", x.asks(2, 0, 0), 99);
    Check.due("99", x.asks(1, 0, 15), 99);
    Check.due("99 less 99", x.asks(2, 0, 15), 0);
  }

  @Edge("What part 0 dulls, 1 limit, 2 costs says of a CELL of a SLEEPER's.")
  static void promise7TheTextNotTheKind() {
    DreamWindows x = Check.by("dulls 7;limit 8;costs 9;");
    for (int kind = 0; kind < 6; kind++) {
      x.sleeper(10 * kind + 5, 0, 0);
      for (int c = 0; c < 6; c += 5) {
        Check.due("dulls " + kind, x.asks(0, kind, c), 7);
        Check.due("limit " + kind, x.asks(1, kind, c), 8);
        Check.due("costs " + kind, x.asks(2, kind, c), 9);
      }
    }
  }
}
