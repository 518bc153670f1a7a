/** For each promise of the document its ordinary inputs, its edges, its wrong inputs. */
public final class PromiseTest {
  private static final int BAD = -1, STATE = -2, FULL = -3, NONE = -4;
  private static final String ALL =
      "law 0;one plain 30 40;one abbot 60 70;one faster 25 24;one twin 22 50;"
      + "frontier 2 3;frontier 0 2;frontier 4 9;load 5 3 8 1;";
  private static int wrong;
  private static int promise;

  private static void due(String call, int got, int want) {
    if (got != want) {
      wrong++;
      System.out.println("promise " + promise + ": " + call + " answered " + got + ", due is " + want);
    }
  }

  private static void feed(WeighedSelf x, String text) {
    StringBuilder b = new StringBuilder(text);
    while (b.length() % 8 != 0) b.append(' ');
    for (int i = 0; i < b.length(); i += 8) {
      long v = 0;
      for (int j = 0; j < 8; j++) v = v << 8 | b.charAt(i + j);
      x.feed(v);
    }
    x.end(text.length());
  }

  private static int told(WeighedSelf x, String text) {
    feed(x, text);
    return x.text();
  }

  private static WeighedSelf of(String text) {
    WeighedSelf x = new WeighedSelf();
    due("text() of " + text, Math.min(told(x, text), 0), 0);
    return x;
  }

  public static void main(String[] args) {
    Runnable[] all = {
      PromiseTest::newObject, PromiseTest::feedAndFull, PromiseTest::endOfTape, PromiseTest::texts, PromiseTest::faults,
      PromiseTest::rules, PromiseTest::ones, PromiseTest::frontiers, PromiseTest::loads, PromiseTest::laws,
      PromiseTest::errors, PromiseTest::prices, PromiseTest::bodies, PromiseTest::books, PromiseTest::adds,
      PromiseTest::drops, PromiseTest::days, PromiseTest::crossings, PromiseTest::mays, PromiseTest::rooms,
      PromiseTest::seasons, PromiseTest::bests, PromiseTest::shares, PromiseTest::spans, PromiseTest::goodsBetween,
      PromiseTest::sees, PromiseTest::forgets, PromiseTest::whoses, PromiseTest::probes, PromiseTest::clears,
      PromiseTest::errsTried, PromiseTest::drifts, PromiseTest::keeps, PromiseTest::backs, PromiseTest::sheets,
      PromiseTest::lays, PromiseTest::reads, PromiseTest::torns, PromiseTest::counts};
    for (Runnable test : all) {
      promise++;
      test.run();
    }
    if (promise != 39) wrong++;
    System.out.println(wrong == 0 ? "all 39 promises hold" : wrong + " answers are not as due");
    if (wrong != 0) System.exit(1);
  }

  private static void newObject() {
    WeighedSelf x = new WeighedSelf();
    for (int what = 0; what < 4; what++) due("rule(" + what + ")", x.rule(what), 0);
    for (int k = 0; k < 4; k++) due("lay(" + k + ", 0, 0)", x.lay(k, 0, 0), -11);
    due("one(0, 0)", x.one(0, 0), BAD);
    due("frontier(0, 0)", x.frontier(0, 0), BAD);
    due("load(0)", x.load(0), BAD);
    due("fault()", x.fault(), 0);
    due("torn()", x.torn(), 0);
    int[] counts = {0, 0, 0, 0, NONE, 0};
    for (int what = 0; what < 6; what++) due("count(" + what + ")", x.count(what), counts[what]);
    due("back(0)", x.back(0), STATE);
    due("best(0, 0)", x.best(0, 0), NONE);
    due("whose(0)", x.whose(0), 1);
  }

  private static void feedAndFull() {
    WeighedSelf x = new WeighedSelf();
    for (int i = 1; i <= 40; i++) due("feed", x.feed(0x2020202020202020L), 8 * i);
    due("feed past 320", x.feed(0), FULL);
    due("count(3)", x.count(3), 320);
    due("end(313)", x.end(313), 320);
    due("feed past 320", x.feed(0), FULL);
    due("end(312)", x.end(312), 313);
    due("feed to 320", x.feed(0x6c61772032203b21L), 320); // law 2 ;!
    due("the highest byte is first", x.text(), -10 - 319);
  }

  private static void endOfTape() {
    WeighedSelf x = new WeighedSelf();
    due("end(0)", x.end(0), 0);
    due("end(1)", x.end(1), BAD);
    feed(x, "law 2;  ");
    due("end(-1)", x.end(-1), BAD);
    due("end(9)", x.end(9), BAD);
    due("end(8)", x.end(8), 8);
    due("end(6)", x.end(6), 8);
    due("end(7)", x.end(7), BAD);
    due("count(3)", x.count(3), 6);
    due("text()", x.text(), 1);
    due("rule(2)", x.rule(2), 2);
  }

  private static void texts() {
    WeighedSelf x = of(ALL);
    x.see(0, 5);
    x.probe(0, 5, 5);
    x.keep(1);
    x.sheet(0, 0, 3);
    due("a fault", told(x, "law 1;!"), -16);
    due("rule(0)", x.rule(0), 4);
    due("rule(2)", x.rule(2), 0);
    due("count(0)", x.count(0), 1);
    due("count(2)", x.count(2), 1);
    due("the tape is empty", x.count(3), 0);
    due("blanks", told(x, "  one   twin 21 40;one twin 25 30 ; one plain 99 199;one abbot 40 0;  "), 4);
    due("the first twin's book", x.one(1, 2), 40);
    due("a text that is taken forgets", x.count(0) + x.count(1) + x.count(2), 0);
    due("sheets stay", x.count(4), 3);
    due("no frontiers", x.rule(1), 0);
    due("tokens as long as may be", told(x, "law2;load1 2;load 003;frontier0 1;one walker20 0;"), 5);
    due("rule(3)", x.rule(3), 3);
    due("load(2)", x.load(2), 3);
    due("an empty text", x.text(), 0);
    for (int what = 0; what < 4; what++) due("rule(" + what + ")", x.rule(what), 0);
    due("blanks alone", told(x, "   "), 0);
    allIsNew();
  }

  private static void allIsNew() {
    WeighedSelf x = of("one faster 25 60;frontier 2 3;");
    x.cross(0, 0, 5);
    x.day(0, 1);
    due("MONEY, EATEN, DAYS", x.one(0, 5) * 100 + x.one(0, 3) * 10 + x.one(0, 6), 1522);
    due("the same again", told(x, "one faster 25 60;"), 1);
    due("MONEY, EATEN, DAYS", x.one(0, 5) * 100 + x.one(0, 3) * 10 + x.one(0, 6), 0);
    feed(x, "law 12;law");
    x.end(5);
    due("what is cut off is not read", x.text(), -15);
    feed(x, "laws 1;;");
    x.end(3);
    due("what is cut off is not read", x.text(), -13);
    feed(x, "law 1;;;");
    x.end(6);
    due("what is cut off is not read", x.text(), 1);
  }

  private static void faults() {
    Object[][] rows = {
      {"law 1;LAW", 1, 6}, {"one 1000;", 1, 4}, {"load 1000;", 1, 5}, {"law 1 1000;", 1, 6}, {"law 1234;", 1, 4}, {"0000", 1, 0}, {"one plain 30 0300;", 1, 13}, {"law 5!", 3, 4},
      {"law 1 2;", 2, 6}, {"law ;", 2, 4}, {"law", 2, 3}, {"law  ", 2, 5}, {"law 1 ", 2, 6}, {";", 2, 0}, {"7", 2, 0},
      {"laws 1;", 2, 0}, {"one king 30 1;", 2, 4}, {"one 30 30 1;", 2, 4}, {"one one 30 1;", 2, 4}, {"one plainer 30 1;", 2, 4},
      {"one plain 30;", 2, 12}, {"frontier 1;", 2, 10}, {"load;", 2, 4}, {"load 1 x;", 2, 7}, {"load 1", 2, 6}, {"load 1 2 3 4 5", 2, 14},
      {"law 3;", 3, 4}, {"one plain 19 1;", 3, 10}, {"one plain 100 1;", 3, 10}, {"one abbot 39 1;", 3, 10}, {"one twin 20 200;", 3, 12},
      {"frontier 5 1;", 3, 9}, {"frontier 4 0;", 3, 11}, {"frontier 4 10;", 3, 11}, {"load 0;", 3, 5}, {"load 30 31;", 3, 8},
      {"law 1;law 1;", 4, 6}, {"law 1; law", 4, 7}, {"law 3;law 1;", 3, 4},
      {"load 1 2 3 4 5 6;", 5, 15}, {"load 1 2 3;load 4 5 999;", 5, 20}, {"load 1 2 3 4 5;load 0;", 5, 20}, {"load 1 2 3 4 5;load;", 2, 19},
      {"load 1 2 3 4 5 1000;", 1, 15},
      {"one twin 30 1;one twin 30 1;one twin 30 1;one twin 30 1;one", 5, 56},
      {"frontier 1 1;frontier 1 1;frontier 1 1;frontier 9", 5, 39}};
    for (Object[] row : rows) {
      WeighedSelf x = new WeighedSelf();
      due("text() of " + row[0], told(x, (String) row[0]), -10 - (Integer) row[2]);
      due("fault() of " + row[0], x.fault(), (Integer) row[1]);
      due("rule(0)", x.rule(0) + x.rule(1) + x.rule(2) + x.rule(3), 0);
    }
    WeighedSelf x = new WeighedSelf();
    told(x, "law");
    due("fault()", x.fault(), 2);
    told(x, "law 1;");
    due("fault()", x.fault(), 0);
    x.feed(0xe16c617720313b20L);
    due("a byte above 127", x.text(), -10);
    due("fault()", x.fault(), 1);
  }

  private static void rules() {
    WeighedSelf x = of(ALL);
    int[] want = {4, 3, 0, 4};
    for (int what = 0; what < 4; what++) due("rule(" + what + ")", x.rule(what), want[what]);
    due("rule(-1)", x.rule(-1), BAD);
    due("rule(4)", x.rule(4), BAD);
  }

  private static void ones() {
    WeighedSelf x = of(ALL);
    x.cross(0, 0, 10);
    x.day(0, 1);
    int[] want = {0, 31, 40, 2, 38, 30, 2};
    for (int what = 0; what < 7; what++) due("one(0, " + what + ")", x.one(0, what), want[what]);
    for (int p = 0; p < 4; p++) due("one(" + p + ", 0)", x.one(p, 0), p);
    due("one(0, 7)", x.one(0, 7), BAD);
    due("one(0, -1)", x.one(0, -1), BAD);
    due("one(4, 0)", x.one(4, 0), BAD);
    due("one(-1, 0)", x.one(-1, 0), BAD);
    x.book(0, 1);
    x.day(0, 1);
    due("LIMIT is 0 at least", x.one(0, 4), 0);
    due("walker", of("one walker 20 0;").one(0, 0), 4);
  }

  private static void frontiers() {
    WeighedSelf x = of(ALL);
    due("frontier(0, 0)", x.frontier(0, 0), 2);
    due("frontier(2, 1)", x.frontier(2, 1), 9);
    due("frontier(3, 0)", x.frontier(3, 0), BAD);
    due("frontier(-1, 0)", x.frontier(-1, 0), BAD);
    due("frontier(0, 2)", x.frontier(0, 2), BAD);
    due("frontier(0, -1)", x.frontier(0, -1), BAD);
    due("one that is not told", of("frontier 0 1;").frontier(1, 0), BAD);
  }

  private static void loads() {
    WeighedSelf x = of(ALL);
    int[] want = {5, 3, 8, 1, BAD, BAD};
    for (int i = 0; i < 6; i++) due("load(" + i + ")", x.load(i), want[i]);
    due("load(-1)", x.load(-1), BAD);
  }

  private static void laws() {
    WeighedSelf x = new WeighedSelf();
    due("law(2)", x.law(2), 0);
    due("law(3)", x.law(3), BAD);
    due("law(-1)", x.law(-1), BAD);
    due("law(1)", x.law(1), 2);
    due("rule(2)", x.rule(2), 1);
    due("law(0)", x.law(0), 1);
    due("rule(2)", x.rule(2), 0);
  }

  private static void errors() {
    WeighedSelf x = of(ALL);
    due("err(1, 4)", x.err(1, 4), 0);
    due("err(1, 5)", x.err(1, 5), BAD);
    due("err(1, -1)", x.err(1, -1), BAD);
    due("err(3, 0)", x.err(3, 0), BAD);
    due("err(1, 0)", x.err(1, 0), 4);
    due("frontier(1, 0)", x.frontier(1, 0), 0);
    due("frontier(0, 0)", x.frontier(0, 0), 2);
  }

  private static void prices() {
    WeighedSelf x = of(ALL);
    due("price(1, 9)", x.price(1, 9), 2);
    due("price(1, 10)", x.price(1, 10), BAD);
    due("price(1, 0)", x.price(1, 0), BAD);
    due("price(-1, 1)", x.price(-1, 1), BAD);
    due("price(1, 1)", x.price(1, 1), 9);
    due("frontier(1, 1)", x.frontier(1, 1), 1);
  }

  private static void bodies() {
    WeighedSelf x = of(ALL);
    due("body(0, 20)", x.body(0, 20), 30);
    due("body(0, 19)", x.body(0, 19), BAD);
    due("body(0, 100)", x.body(0, 100), BAD);
    due("body(1, 39)", x.body(1, 39), BAD);
    due("body(1, 40)", x.body(1, 40), 60);
    due("body(4, 40)", x.body(4, 40), BAD);
    due("body(0, 99)", x.body(0, 99), 20);
    due("one(0, 1)", x.one(0, 1), 99);
  }

  private static void books() {
    WeighedSelf x = of("one twin 30 50;one plain 30 60;one twin 40 70;");
    x.day(2, 1);
    due("one(0, 3)", x.one(0, 3), 2);
    due("book(2, 199)", x.book(2, 199), 50);
    due("one(0, 2)", x.one(0, 2), 199);
    due("one(0, 3)", x.one(0, 3), 0);
    due("one(1, 2)", x.one(1, 2), 60);
    due("book(0, 200)", x.book(0, 200), BAD);
    due("book(0, -1)", x.book(0, -1), BAD);
    due("book(3, 0)", x.book(3, 0), BAD);
    due("book(1, 0)", x.book(1, 0), 60);
    due("one(1, 4)", x.one(1, 4), 0);
  }

  private static void adds() {
    WeighedSelf x = new WeighedSelf();
    due("add(0)", x.add(0), BAD);
    due("add(31)", x.add(31), BAD);
    for (int i = 1; i <= 5; i++) due("add", x.add(i == 1 ? 1 : 30), i);
    due("add(1)", x.add(1), FULL);
    due("add(31)", x.add(31), BAD);
    due("load(4)", x.load(4), 30);
  }

  private static void drops() {
    WeighedSelf x = of(ALL);
    due("drop(5)", x.drop(5), BAD);
    due("drop(-1)", x.drop(-1), BAD);
    due("drop(4)", x.drop(4), 4);
    due("drop(1)", x.drop(1), 4);
    due("load(1)", x.load(1), BAD);
    due("load(0)", x.load(0), 5);
    due("drop(0)", x.drop(0), 1);
    due("rule(3)", x.rule(3), 0);
  }

  private static void days() {
    WeighedSelf x = of("one plain 30 40;one abbot 60 70;one faster 25 24;one walker 25 24;");
    int[][] body = {{29, 31, 29}, {59, 62, 60}, {25, 27, 25}, {24, 26, 25}};
    for (int p = 0; p < 4; p++) {
      for (int what = 0; what < 3; what++) due("day(" + p + ", " + what + ")", x.day(p, what), body[p][what]);
      due("EATEN", x.one(p, 3), p == 1 ? 3 : 2);
      due("DAYS", x.one(p, 6), 3);
    }
    due("day(4, 0)", x.day(4, 0), BAD);
    due("day(0, 3)", x.day(0, 3), BAD);
    due("day(0, -1)", x.day(0, -1), BAD);
    leanAndFat(x);
    fasting();
    thousandth();
    twins();
  }

  private static void leanAndFat(WeighedSelf x) {
    x.body(0, 20);
    due("below LEAN", x.day(0, 0), STATE);
    x.body(0, 21);
    due("below LEAN", x.day(0, 2), STATE);
    due("at LEAN", x.day(0, 0), 20);
    x.body(0, 98);
    due("above 99", x.day(0, 1), STATE);
    x.body(0, 97);
    due("at 99", x.day(0, 1), 99);
    x.body(1, 40);
    due("an abbot's LEAN", x.day(1, 0), STATE);
    x.body(1, 97);
    due("an abbot above 99", x.day(1, 1), STATE);
    x.body(2, 20);
    due("a faster rests", x.day(2, 0), 20);
    x.body(3, 21);
    due("a walker walks", x.day(3, 2), 20);
    due("a walker walks no more", x.day(3, 2), STATE);
  }

  private static void fasting() {
    WeighedSelf x = of("law 1;one plain 30 40;one plain 30 40;");
    for (int i = 0; i < 22; i++) {
      due("day " + i, x.day(0, 1), i % 7 == 0 ? STATE : 30 + i % 7);
      x.body(0, 30);
      if (i % 7 == 0) x.day(0, 0);
      x.body(0, 30 + (i + 1) % 7 - 2);
    }
    due("the other's days", x.day(1, 1), STATE);
    x.law(2);
    due("another law", x.day(1, 1), 32);
  }

  private static void thousandth() {
    WeighedSelf x = of("one faster 20 40;frontier 2 1;");
    manyDays(x, 999);
    due("DAYS", x.one(0, 6), 999);
    due("his 1000th", x.day(0, 0), FULL);
    due("STATE is first", x.day(0, 2), STATE);
    due("may", x.may(0), 11);
    due("his 1000th, crossing", x.cross(0, 0, 0), FULL);
    due("STATE is first", x.cross(0, 0, 30), STATE);
    due("read", x.read(1, 0, 0, 1), -20);
    due("DAYS", x.one(0, 6), 999);
  }

  /** Days by sheets, twenty a call, as one object is used for 512 calls at most. */
  private static void manyDays(WeighedSelf x, int n) {
    x.sheet(1, 0, 40);
    for (int left = n; left > 0; left -= 20) x.read(1, 0, 0, Math.min(20, left));
  }

  private static void twins() {
    WeighedSelf x = of("one plain 30 60;one twin 30 50;one twin 40 0;frontier 2 1;");
    x.day(1, 1);
    x.day(2, 1);
    due("EATEN together", x.one(1, 3), 4);
    due("EATEN together", x.one(2, 3), 4);
    due("not of the others", x.one(0, 3), 0);
    due("LIMIT", x.one(2, 4), 46);
    due("cross(2, 0, 4)", x.cross(2, 0, 4), 46);
    due("BOOK of all", x.one(1, 2), 46);
    due("EATEN of all", x.one(1, 3), 0);
    due("BOOK of the others", x.one(0, 2), 60);
    due("MONEY is his", x.one(1, 5), 0);
    due("DAYS are his", x.one(1, 6), 1);
  }

  private static void crossings() {
    WeighedSelf x = of("one plain 30 40;one faster 20 60;frontier 4 9;frontier 0 1;");
    due("cross(0, 0, 9)", x.cross(0, 0, 9), STATE);
    due("cross(0, 0, 8)", x.cross(0, 0, 8), 40);
    due("MONEY", x.one(0, 5), 72);
    due("BODY", x.one(0, 1), 29);
    due("DAYS", x.one(0, 6), 1);
    due("cross(0, 1, 0)", x.cross(0, 1, 0), 27);
    due("BOOK", x.one(0, 2), 27);
    due("cross(0, 1, 100)", x.cross(0, 1, 100), BAD);
    due("cross(0, 1, -1)", x.cross(0, 1, -1), BAD);
    due("cross(2, 1, 0)", x.cross(2, 1, 0), BAD);
    due("cross(0, 2, 0)", x.cross(0, 2, 0), BAD);
    x.law(2);
    due("LAW 2", x.cross(1, 0, 6), STATE);
    due("LAW 2", x.cross(1, 0, 5), 27);
    due("a faster's BODY", x.one(1, 1), 20);
    x.law(0);
    x.book(0, 199);
    x.body(0, 20);
    due("below LEAN by it", x.cross(0, 0, 0), STATE);
    tooRich();
  }

  private static void tooRich() {
    WeighedSelf x = of("one faster 20 199;frontier 2 9;");
    for (int i = 0; i < 11; i++) {
      x.book(0, 199);
      due("cross(0, 0, 99)", x.cross(0, 0, 99), 119);
    }
    x.book(0, 199);
    due("MONEY 9801 and 207", x.cross(0, 0, 23), FULL);
    due("cross(0, 0, 22)", x.cross(0, 0, 22), 42);
    due("MONEY", x.one(0, 5), 9999);
    due("without goods", x.cross(0, 0, 0), 20);
    x.book(0, 199);
    due("ROOM is what he can, all the same", x.room(0, 0), 99);
    due("a season too", x.season(0, 1, 0), 891);
  }

  private static void mays() {
    WeighedSelf x = of(ALL);
    int[] want = {63, 63, 23, 63};
    for (int p = 0; p < 4; p++) due("may(" + p + ")", x.may(p), want[p]);
    due("may(4)", x.may(4), BAD);
    due("may(-1)", x.may(-1), BAD);
    x.body(0, 20);
    due("at LEAN", x.may(0), 2);
    x.law(1);
    due("nothing", x.may(0), 0);
    x.body(0, 99);
    due("at 99", x.may(0), 5);
    due("nobody's", new WeighedSelf().may(0), BAD);
  }

  private static void rooms() {
    WeighedSelf x = of(ALL);
    int[][] want = {{10, 12, 8}, {10, 12, 8}, {NONE, 1, NONE}, {28, 30, 26}};
    for (int p = 0; p < 4; p++) for (int f = 0; f < 3; f++) due("room(" + p + ", " + f + ")", x.room(p, f), want[p][f]);
    due("room(4, 0)", x.room(4, 0), BAD);
    due("room(0, 3)", x.room(0, 3), BAD);
    due("room(0, -1)", x.room(0, -1), BAD);
    x.book(3, 199);
    due("99 at most", x.room(3, 0), 99);
    x.law(2);
    due("5 by LAW 2", x.room(3, 0), 5);
    due("less by LIMIT", x.room(2, 1), 1);
    x.law(0);
    x.book(0, 30);
    due("0", x.room(0, 0), 0);
    x.body(0, 20);
    due("he must not be below LEAN by it", x.room(0, 1), NONE);
  }

  private static void seasons() {
    WeighedSelf x = of(ALL);
    due("season(3, 8, 0)", x.season(3, 8, 0), 1323);
    due("season(0, 0, 0)", x.season(0, 0, 0), 0);
    due("season(0, 0, 10)", x.season(0, 0, 10), BAD);
    due("season(0, 1, 11)", x.season(0, 1, 11), BAD);
    due("season(0, 1, 9)", x.season(0, 1, 9), BAD);
    due("season(0, 1, 1)", x.season(0, 1, 1), BAD);
    due("season(0, 1, -1)", x.season(0, 1, -1), BAD);
    due("season(0, 9, 0)", x.season(0, 9, 0), BAD);
    due("season(0, -1, 0)", x.season(0, -1, 0), BAD);
    due("season(4, 1, 0)", x.season(4, 1, 0), BAD);
    due("a row without an end", x.season(0, Integer.MAX_VALUE, 10), BAD);
    due("it changes nothing", x.one(3, 6) + x.one(3, 5), 0);
    WeighedSelf y = of("one plain 40 40;frontier 3 1;");
    due("he walks first", y.season(0, 2, 10), 2);
    due("and crosses", y.season(0, 2, 11), 3);
    due("for 1", y.season(0, 2, 0), 1);
    WeighedSelf z = of("one plain 40 20;frontier 3 1;frontier 3 1;");
    for (int k = 0; k < 8; k++) due("REST is the first", z.season(0, 8, 10 + k), 0);
    z.book(0, 41);
    z.body(0, 39);
    due("the first frontier of two", z.season(0, 1, 10), 3);
    WeighedSelf w = of("law 1;one plain 20 99;frontier 2 1;");
    due("no row", w.season(0, 1, 0), NONE);
    due("no row's day", w.season(0, 1, 10), NONE);
    due("a row of no days", w.season(0, 0, 0), 0);
    due("BAD is first", w.season(0, 1, 11), BAD);
    fastingSeason();
    longSeason();
  }

  /** Rows whose bounds change on their way. */
  private static void longSeason() {
    WeighedSelf x = of("law 2;one plain 30 40;frontier 0 5;frontier 4 6;");
    // Each day 5 at 6: BODY is 1 less each day, so what was shown is room enough.
    due("MONEY", x.season(0, 8, 0), 240);
    for (int k = 0; k < 8; k++) due("DAY " + k, x.season(0, 8, 10 + k), 4);
    WeighedSelf y = of("one plain 21 22;frontier 2 9;");
    due("he can cross but once", y.season(0, 4, 0), 9);
    int[] row = {3, 1, 0, 0};
    for (int k = 0; k < 4; k++) due("DAY " + k, y.season(0, 4, 10 + k), row[k]);
  }

  /** By LAW 1 he must not eat on his day 7, whatever the season's own days are. */
  private static void fastingSeason() {
    WeighedSelf x = of("one plain 30 40;");
    manyDays(x, 6);
    x.law(1);
    x.body(0, 20);
    due("EAT, then REST", x.season(0, 2, 10) * 10 + x.season(0, 2, 11), 10);
    due("then nothing else", x.span(0, 2, 1), 21);
    x.body(0, 22);
    x.day(0, 0);
    x.body(0, 20);
    due("no row", x.season(0, 1, 0), NONE);
  }

  private static void bests() {
    WeighedSelf x = of(ALL);
    due("best(4, 0)", x.best(4, 0), 3);
    due("best(4, 1)", x.best(4, 1), 693);
    due("best(0, 0)", x.best(0, 0), 0);
    due("best(0, 1)", x.best(0, 1), 0);
    due("best(9, 0)", x.best(9, 0), BAD);
    due("best(-1, 0)", x.best(-1, 0), BAD);
    due("best(1, 2)", x.best(1, 2), BAD);
    due("best(1, -1)", x.best(1, -1), BAD);
    WeighedSelf y = of("law 1;one plain 20 99;one plain 25 24;one plain 25 24;frontier 2 1;");
    due("who has a row", y.best(1, 0), 1);
    due("nothing is earned", y.best(1, 1), 0);
    WeighedSelf z = of("law 1;one plain 20 99;");
    due("nobody has a row", z.best(1, 0), NONE);
    due("nobody has a row", z.best(1, 1), NONE);
    due("a row of no days", z.best(0, 0), 0);
  }

  private static void shares() {
    WeighedSelf x = of(ALL);
    x.law(2);
    int[] want = {0, 1, NONE, 1};
    due("share(0, 0)", x.share(0, 0), 9);
    for (int i = 0; i < 4; i++) due("share(0, 1" + i + ")", x.share(0, 10 + i), want[i]);
    due("share(0, 14)", x.share(0, 14), BAD);
    due("share(0, 9)", x.share(0, 9), BAD);
    due("share(0, 1)", x.share(0, 1), BAD);
    due("share(3, 0)", x.share(3, 0), BAD);
    due("share(-1, 0)", x.share(-1, 0), BAD);
    x.drop(0);
    due("no loads", x.share(0, 0), 0);
    due("no loads", x.share(0, 10), BAD);
    WeighedSelf y = of("one plain 30 40;one plain 30 36;frontier 2 1;load 6 6 5 5 4;");
    due("ounces", y.share(0, 0), 16);
    int[] first = {NONE, 1, 0, 0, NONE};
    for (int i = 0; i < 5; i++) due("share(0, 1" + i + ")", y.share(0, 10 + i), first[i]);
    WeighedSelf z = of("frontier 2 1;load 6;");
    due("nobody there", z.share(0, 0), 0);
    due("nobody there", z.share(0, 10), NONE);
  }

  private static void spans() {
    WeighedSelf x = of("one plain 26 40;one abbot 60 70;one plain 20 0;");
    due("span(0, 0, 0)", x.span(0, 0, 0), 26);
    due("span(0, 0, 2)", x.span(0, 0, 2), 1);
    due("span(0, 3, 0)", x.span(0, 3, 0), 20);
    due("span(0, 3, 1)", x.span(0, 3, 1), 32);
    due("span(0, 3, 2)", x.span(0, 3, 2), 10);
    due("span(1, 6, 1)", x.span(1, 6, 1), 78);
    due("span(2, 1, 2)", x.span(2, 1, 2), 1);
    x.law(1);
    due("no row", x.span(2, 1, 0), NONE);
    due("no row", x.span(2, 6, 1), NONE);
    due("no row", x.span(2, 1, 2), 0);
    due("no days", x.span(2, 0, 0), 20);
    due("LAW 1 on the first day", x.span(0, 2, 1), 27);
    x.body(0, 99);
    due("99 at most", x.span(0, 6, 1), 99);
    due("at 99", x.span(0, 0, 0) + x.span(0, 0, 2), 100);
    due("span(3, 0, 0)", x.span(3, 0, 0), BAD);
    due("span(0, 7, 0)", x.span(0, 7, 0), BAD);
    due("span(0, -1, 0)", x.span(0, -1, 0), BAD);
    due("span(0, 0, 3)", x.span(0, 0, 3), BAD);
    due("span(0, 0, -1)", x.span(0, 0, -1), BAD);
  }

  private static void goodsBetween() {
    WeighedSelf x = of("law 2;one plain 26 0;one plain 20 0;frontier 2 3;frontier 0 1;");
    due("goods(0, 0, 2, 40, 0)", x.goods(0, 0, 2, 40, 0), 10);
    due("goods(0, 0, 2, 40, 1)", x.goods(0, 0, 2, 40, 1), 18);
    due("goods(0, 1, 0, 24, 0)", x.goods(0, 1, 0, 24, 0), 0);
    due("goods(0, 1, 0, 23, 0)", x.goods(0, 1, 0, 23, 0), NONE);
    due("99 at most", x.goods(0, 0, 0, 125, 1), 99);
    due("99 at most", x.goods(0, 0, 0, 126, 1), NONE);
    due("99 at most", x.goods(0, 0, 1, 126, 1), 98);
    due("at LEAN", x.goods(1, 0, 0, 25, 0), 5);
    x.law(1);
    due("days by LAW 1", x.goods(0, 0, 1, 40, 0), 15);
    due("no row", x.goods(1, 0, 1, 40, 0), NONE);
    due("goods(2, 0, 0, 0, 0)", x.goods(2, 0, 0, 0, 0), BAD);
    due("goods(0, 2, 0, 0, 0)", x.goods(0, 2, 0, 0, 0), BAD);
    due("goods(0, 0, 7, 0, 0)", x.goods(0, 0, 7, 0, 0), BAD);
    due("goods(0, 0, -1, 0, 0)", x.goods(0, 0, -1, 0, 0), BAD);
    due("goods(0, 0, 0, 1000, 0)", x.goods(0, 0, 0, 1000, 0), BAD);
    due("goods(0, 0, 0, 999, 0)", x.goods(0, 0, 0, 999, 0), NONE);
    due("goods(0, 0, 0, -1, 0)", x.goods(0, 0, 0, -1, 0), BAD);
    due("goods(0, 0, 0, 0, 2)", x.goods(0, 0, 0, 0, 2), BAD);
    due("goods(0, 0, 0, 0, -1)", x.goods(0, 0, 0, 0, -1), BAD);
    due("goods(0, 0, 0, 0, 0)", x.goods(0, 0, 0, 0, 0), NONE);
    x.body(0, 99);
    due("99 and 99", x.goods(0, 0, 0, 198, 0), 99);
    due("no goods", x.goods(0, 0, 0, 99, 1), 0);
  }

  private static void sees() {
    WeighedSelf x = of("frontier 2 3;");
    due("see(1, 0)", x.see(1, 0), BAD);
    due("see(0, 1000)", x.see(0, 1000), BAD);
    due("see(0, -1)", x.see(0, -1), BAD);
    for (int i = 1; i <= 4; i++) due("see(0, 999)", x.see(0, 999), i);
    due("see(0, 0)", x.see(0, 0), FULL);
    due("see(0, 1000)", x.see(0, 1000), BAD);
    due("count(0)", x.count(0), 4);
  }

  private static void forgets() {
    WeighedSelf x = of("frontier 2 3;");
    due("forget(1)", x.forget(1), BAD);
    x.see(0, 1);
    x.see(0, 2);
    due("forget(3)", x.forget(3), BAD);
    due("forget(-1)", x.forget(-1), BAD);
    due("forget(1)", x.forget(1), 2);
    due("forget(0)", x.forget(0), 1);
    due("count(0)", x.count(0), 0);
  }

  private static void whoses() {
    WeighedSelf x = of("one plain 30 40;one plain 30 40;one plain 30 35;frontier 2 1;frontier 4 1;");
    due("nothing seen", x.whose(0), 1);
    due("whose(10)", x.whose(10), BAD);
    due("whose(20)", x.whose(20), BAD);
    x.see(0, 40);
    x.see(0, 35);
    due("rows", x.whose(0), 4);
    due("whose(10)", x.whose(10), 0);
    due("whose(11)", x.whose(11), 1);
    due("whose(20)", x.whose(20), NONE);
    x.see(1, 38);
    due("rows", x.whose(0), 2);
    due("whose(11)", x.whose(11), 2);
    due("whose(20)", x.whose(20), NONE);
    due("whose(21)", x.whose(21), 2);
    due("whose(13)", x.whose(13), BAD);
    due("whose(23)", x.whose(23), BAD);
    due("whose(1)", x.whose(1), BAD);
    due("whose(9)", x.whose(9), BAD);
    due("whose(-1)", x.whose(-1), BAD);
    x.law(2);
    due("no goods so great", x.whose(0), 0);
    due("whose(10)", x.whose(10), NONE);
    due("whose(21)", x.whose(21), NONE);
    WeighedSelf y = of("one plain 20 40;frontier 2 1;");
    y.see(0, 25);
    due("he can not cross at LEAN", y.whose(0), 0);
    y.body(0, 26);
    due("goods are 0 at least", y.whose(0), 0);
    y.body(0, 25);
    due("as all is now", y.whose(20), 0);
  }

  private static void probes() {
    WeighedSelf x = of("frontier 2 3;");
    due("probe(1, 0, 0)", x.probe(1, 0, 0), BAD);
    due("probe(0, 200, 0)", x.probe(0, 200, 0), BAD);
    due("probe(0, -1, 0)", x.probe(0, -1, 0), BAD);
    due("probe(0, 0, 1000)", x.probe(0, 0, 1000), BAD);
    due("probe(0, 0, -1)", x.probe(0, 0, -1), BAD);
    for (int i = 1; i <= 6; i++) due("probe(0, 199, 999)", x.probe(0, 199, 999), i);
    due("probe(0, 0, 0)", x.probe(0, 0, 0), FULL);
    due("probe(0, 200, 0)", x.probe(0, 200, 0), BAD);
    due("count(1)", x.count(1), 6);
  }

  private static void clears() {
    WeighedSelf x = of("frontier 2 3;");
    x.probe(0, 50, 50);
    x.probe(0, 50, 51);
    due("clear(3)", x.clear(3), BAD);
    due("clear(-1)", x.clear(-1), BAD);
    due("errs(0)", x.errs(0), 0);
    due("clear(1)", x.clear(1), 2);
    due("errs(0)", x.errs(0), 4);
    due("clear(0)", x.clear(0), 1);
    due("errs(0)", x.errs(0), 31);
  }

  private static void errsTried() {
    WeighedSelf x = of("frontier 2 3;frontier 2 3;");
    for (int e = 0; e < 5; e++) {
      x.probe(1, 50, 48 + e);
      due("ERROR " + e, x.errs(1), 1 << e);
      due("the other", x.errs(0), 31);
      x.clear(0);
    }
    x.probe(0, 50, 47);
    due("too little", x.errs(0), 0);
    x.clear(0);
    x.probe(0, 50, 53);
    due("too much", x.errs(0), 0);
    x.clear(0);
    x.probe(0, 0, 999);
    due("far too much", x.errs(0), 0);
    due("errs(2)", x.errs(2), BAD);
    due("errs(-1)", x.errs(-1), BAD);
  }

  private static void drifts() {
    WeighedSelf x = of(ALL);
    x.day(3, 1);
    // seed 0: 12345, bits 0: REST.
    due("drift(0, 0, 1, 0)", x.drift(0, 0, 1, 0), 29);
    int seed = 7, body = 24, eaten = 2;
    for (int n = 1; n <= 60; n++) {
      seed = seed * 1103515245 + 12345;
      int deed = (int) ((seed & 0x7fff0000L) / 65536 % 3);
      int then = body + (deed == 0 ? -1 : deed == 1 ? 2 : -2);
      if (then >= 20 && then <= 99) {
        body = then;
        eaten += deed == 1 ? 2 : 0;
      }
      due("BODY", x.drift(7, 3, n, 0), body);
      due("EATEN", x.drift(7, 3, n, 1), eaten);
    }
    due("by itself", x.one(3, 1) * 100 + x.one(3, 3) * 10 + x.one(3, 6), 2421);
    due("drift(7, 4, 1, 0)", x.drift(7, 4, 1, 0), BAD);
    due("drift(7, 0, 0, 0)", x.drift(7, 0, 0, 0), BAD);
    due("drift(7, 0, 61, 0)", x.drift(7, 0, 61, 0), BAD);
    due("drift(7, 0, 1, 2)", x.drift(7, 0, 1, 2), BAD);
    due("drift(7, 0, 1, -1)", x.drift(7, 0, 1, -1), BAD);
    driftByLaw();
  }

  /** By LAW 1 days on which he could do nothing are over, too. */
  private static void driftByLaw() {
    WeighedSelf x = of("law 1;one faster 50 100;");
    int seed = 1, body = 50;
    for (int n = 1; n <= 30; n++) {
      seed = seed * 1103515245 + 12345;
      int deed = (seed >>> 16 & 0x7fff) % 3;
      body += deed == 1 ? ((n - 1) % 7 == 0 ? 0 : 2) : deed == 2 ? -2 : 0;
      due("BODY", x.drift(1, 0, n, 0), body);
    }
    manyDays(x, 3);
    seed = 1;
    body = 50;
    for (int n = 1; n <= 30; n++) {
      seed = seed * 1103515245 + 12345;
      int deed = (seed >>> 16 & 0x7fff) % 3;
      body += deed == 1 ? ((n + 2) % 7 == 0 ? 0 : 2) : deed == 2 ? -2 : 0;
      due("BODY from his 4th day on", x.drift(1, 0, n, 0), body);
    }
  }

  private static void keeps() {
    WeighedSelf x = of(ALL);
    due("keep(2)", x.keep(2), BAD);
    due("keep(-1)", x.keep(-1), BAD);
    due("keep(0)", x.keep(0), 0);
    due("keep(0)", x.keep(0), 1);
    due("keep(1)", x.keep(1), 0);
    due("count(2)", x.count(2), 2);
    x.body(0, 50);
    x.keep(1);
    x.body(0, 60);
    x.back(1);
    due("the later image", x.one(0, 1), 50);
    x.back(0);
    due("the other image", x.one(0, 1), 30);
    x.day(0, 1);
    x.back(0);
    due("an image stays as it was", x.one(0, 1) + x.one(0, 3), 30);
  }

  private static void backs() {
    WeighedSelf x = of(ALL);
    due("back(0)", x.back(0), STATE);
    due("back(2)", x.back(2), BAD);
    due("back(-1)", x.back(-1), BAD);
    x.day(3, 1);
    x.cross(0, 0, 4);
    x.keep(0);
    x.law(2);
    x.err(0, 0);
    x.price(0, 1);
    x.drop(1);
    x.add(30);
    x.day(3, 0);
    x.cross(0, 1, 2);
    x.see(0, 10);
    x.probe(0, 10, 10);
    due("back(0)", x.back(0), 4);
    due("LAW", x.rule(2), 0);
    due("ERROR", x.frontier(0, 0), 2);
    due("PRICE", x.frontier(0, 1), 3);
    due("load(1)", x.load(1), 3);
    int[] want = {0, 29, 34, 0, 34, 12, 1};
    for (int what = 0; what < 7; what++) due("one(0, " + what + ")", x.one(0, what), want[what]);
    due("EATEN", x.one(3, 3), 2);
    due("SEEN and TRIED are no part of it", x.count(0) + x.count(1), 2);
    due("a text that is taken", told(x, "law 1;"), 1);
    due("back(0)", x.back(0), STATE);
  }

  private static void sheets() {
    WeighedSelf x = new WeighedSelf();
    due("sheet(4, 0, 1)", x.sheet(4, 0, 1), BAD);
    due("sheet(-1, 0, 1)", x.sheet(-1, 0, 1), BAD);
    due("sheet(0, 3, 1)", x.sheet(0, 3, 1), BAD);
    due("sheet(0, -1, 1)", x.sheet(0, -1, 1), BAD);
    due("sheet(0, 0, 41)", x.sheet(0, 0, 41), BAD);
    due("sheet(0, 3, -1)", x.sheet(0, 3, -1), BAD);
    due("sheet(0, 0, -1)", x.sheet(0, 0, -1), -14);
    due("count(4)", x.count(4), NONE);
    due("sheet(0, 2, 40)", x.sheet(0, 2, 40), 1);
    due("count(4)", x.count(4), 40);
    due("sheet(0, 1, -1)", x.sheet(0, 1, Integer.MIN_VALUE), -14);
    due("count(4)", x.count(4), 40);
    due("sheet(0, 0, 0)", x.sheet(0, 0, 0), 1);
    due("count(4)", x.count(4), 0);
    WeighedSelf y = of("one plain 30 40;");
    y.sheet(0, 0, 2);
    y.lay(0, 1, 1);
    y.sheet(0, 0, 2);
    y.read(0, 0, 0, 1);
    due("new CELLS are 0", y.one(0, 1), 29);
  }

  private static void lays() {
    WeighedSelf x = of("one plain 30 40;");
    due("lay(4, 0, 0)", x.lay(4, 0, 0), BAD);
    due("lay(-1, 0, 0)", x.lay(-1, 0, 0), BAD);
    due("lay(0, 0, 0)", x.lay(0, 0, 0), -11);
    due("lay(0, -1, 0)", x.lay(0, -1, 0), -11);
    for (int lane = 0; lane < 3; lane++) {
      x.sheet(lane, lane, 2);
      due("lay(2)", x.lay(lane, 2, 0), -12);
      due("lay(-1)", x.lay(lane, -1, 0), -12);
      due("lay(0)", x.lay(lane, 0, 0x10100), 1);
      due("lay(1)", x.lay(lane, 1, 1), 1);
    }
    due("a byte's lowest bits", x.read(0, 0, 0, 1), 1);
    due("a short's lowest bits", x.read(1, 1, 0, 1), -20);
    x.lay(1, 0, 0x10000);
    due("a short's lowest bits", x.read(1, 1, 0, 1), 1);
    x.lay(2, 0, 0x10000);
    due("all of an int", x.read(2, 2, 0, 1), -20);
    x.sheet(3, 0, 0);
    due("no cells", x.lay(3, 0, 0), -12);
  }

  private static void reads() {
    WeighedSelf x = of("one walker 30 60;one twin 21 40;one twin 25 30;frontier 2 9;");
    int[] cells = {0, 2, 1, 1, 2, 0, 3, 0, 0};
    x.sheet(1, 1, 9);
    for (int i = 0; i < 9; i++) x.lay(1, i, cells[i]);
    due("three days", x.read(1, 1, 0, 3), 3);
    due("BODY", x.one(0, 1) * 10000 + x.one(1, 1) * 100 + x.one(2, 1), 292324);
    due("the 4th is refused", x.read(1, 1, 0, 4), -23);
    due("none went", x.one(0, 6) + x.one(1, 6) + x.one(2, 6), 3);
    due("EATEN as it was", x.one(1, 3), 2);
    due("the first met", x.read(1, 1, 4, 20), -21);
    x.lay(1, 6, 0);
    due("those that were whole went", x.read(1, 1, 2, 20), 3);
    due("torn()", x.torn(), 2);
    due("DAYS", x.one(0, 6) + x.one(1, 6) + x.one(2, 6), 6);
    due("half a day is none", x.read(1, 1, 8, 1), 0);
    due("past the end", x.read(1, 1, 9, 1), 0);
    due("far past the end", x.read(1, 1, Integer.MAX_VALUE, 1), 0);
    due("below 0", x.read(1, 1, -1, 2), 0);
    due("another lane", x.read(1, 2, 0, 1), 0);
    due("nothing", x.read(0, 0, 0, 1), 0);
    due("no days", x.read(1, 1, 0, 0), 0);
    due("the last sheet", x.read(3, 0, 0, 1), 0);
    due("DAYS", x.one(0, 6) + x.one(1, 6) + x.one(2, 6), 6);
    due("read(4, 1, 0, 1)", x.read(4, 1, 0, 1), BAD);
    due("read(-1, 1, 0, 1)", x.read(-1, 1, 0, 1), BAD);
    due("read(1, 3, 0, 1)", x.read(1, 3, 0, 1), BAD);
    due("read(1, -1, 0, 1)", x.read(1, -1, 0, 1), BAD);
    due("read(1, 1, 0, 21)", x.read(1, 1, 0, 21), BAD);
    due("read(1, 1, 0, -1)", x.read(1, 1, 0, -1), BAD);
    x.lay(1, 1, 3);
    due("what is no day at home", x.read(1, 1, 0, 1), -20);
    x.lay(1, 0, -1);
    due("no such ONE", x.read(1, 1, 0, 1), -20);
  }

  private static void torns() {
    WeighedSelf x = of("one plain 30 60;");
    x.sheet(0, 0, 4);
    x.sheet(1, 0, 2);
    x.lay(1, 0, 3);
    x.read(0, 0, 2, 2);
    due("INDEX", x.torn(), 2);
    x.read(1, 0, 0, 1);
    due("a read that was refused says nothing", x.torn(), 2);
    x.read(0, 3, 0, 1);
    due("nor one that is BAD", x.torn(), 2);
    x.read(0, 1, 0, 1);
    due("CAST", x.torn(), 3);
    x.read(2, 1, 0, 1);
    due("NULL", x.torn(), 1);
    x.read(0, 0, 0, 1);
    due("none", x.torn(), 0);
    x.read(0, 2, -1, 1);
    due("CAST is found ahead of INDEX", x.torn(), 3);
    x.read(2, 2, -1, 1);
    due("NULL is found ahead of INDEX", x.torn(), 1);
    x.read(0, 2, 4, 20);
    due("CAST past the end", x.torn(), 3);
    x.read(0, 0, -7, 1);
    due("INDEX below 0", x.torn(), 2);
    tornByNoDays();
  }

  /** For no days no cell is asked for: the machine refuses nothing, and the fault ahead is past. */
  private static void tornByNoDays() {
    WeighedSelf x = new WeighedSelf();
    x.sheet(0, 0, 0);
    x.sheet(1, 1, 40);
    x.sheet(2, 2, 1);
    for (int k = 0; k < 4; k++) {
      for (int lane = 0; lane < 3; lane++) {
        for (int f : new int[] {-1, 0, 40, Integer.MAX_VALUE}) {
          x.read(3, 0, 0, 1);
          due("NULL ahead of it", x.torn(), 1);
          due("no days of sheet " + k + " as of lane " + lane, x.read(k, lane, f, 0), 0);
          due("no FAULT of sheet " + k + " as of lane " + lane, x.torn(), 0);
        }
      }
    }
  }

  private static void counts() {
    WeighedSelf x = of(ALL);
    x.see(0, 1);
    x.probe(0, 1, 1);
    x.probe(0, 1, 1);
    x.keep(1);
    x.feed(0);
    x.sheet(0, 2, 7);
    x.sheet(1, 2, 9);
    int[] want = {1, 2, 1, 8, 7, 17};
    for (int what = 0; what < 6; what++) due("count(" + what + ")", x.count(what), want[what]);
    due("count(6)", x.count(6), BAD);
    due("count(-1)", x.count(-1), BAD);
    x.drop(2);
    due("count(5)", x.count(5), 8);
  }
}
