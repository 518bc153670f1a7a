/** The boundaries of images and sheets: promises 33 to 39, and what "Terms" says of SHEETS and of what the machine finds. */
public final class SheetTest {
  private static final int BAD = Given.BAD, STATE = Given.STATE, NONE = Given.NONE;
  private static final int MIN = Integer.MIN_VALUE, MAX = Integer.MAX_VALUE;
  private static final int NULL = 1, INDEX = 2, CAST = 3;

  public static void main(String[] args) {
    imagesAreTwo();
    imagesStayAsTheyWere();
    allIsAsTheImage();
    sheetsHaveNothingAtFirst();
    sheetsOf0To40Cells();
    sheetsAreNew();
    sheetsRefused();
    cellsOfASheet();
    lowestBits();
    readOf0To20Days();
    readFromCellToCell();
    readOfAnotherLane();
    readOfNothing();
    wholeAheadWent();
    refusedByDay();
    refusedInWhicheverWay();
    theFirstMet();
    readOneBehindAnother();
    thousandthByRead();
    tornOfTheLatest();
    counts();
    Given.finish("images and sheets keep their bounds");
  }

  private static void imagesAreTwo() {
    Given.sentence("IMAGE k (0, 1): whether there was one (1, 0). BAD; back: BAD; STATE: there is none");
    WeighedSelf x = Given.of("load 1 2 3;");
    for (int k : new int[] {-1, 2, 3, 256, MIN, MAX}) {
      Given.due("keep(" + k + ")", x.keep(k), BAD);
      Given.due("back(" + k + ")", x.back(k), BAD);
    }
    for (int k = 0; k < 2; k++) {
      Given.due("count(2)", x.count(2), k);
      Given.due("back(" + k + ") of none", x.back(k), STATE);
      Given.due("keep(" + k + ")", x.keep(k), 0);
      Given.due("keep(" + k + ") again", x.keep(k), 1);
      Given.due("back(" + k + ")", x.back(k), 3);
      Given.due("back(" + k + ") again", x.back(k), 3);
    }
    Given.due("count(2)", x.count(2), 2);
    WeighedSelf y = new WeighedSelf();
    Given.due("keep(1) of a new object", y.keep(1), 0);
    Given.due("the other is none", y.back(0), STATE);
    y.add(5);
    Given.due("an image of nothing", y.back(1), 0);
    Given.due("LOADS", y.rule(3), 0);
    Given.due("a FAULT leaves images", Given.told(y, "x"), -10);
    Given.due("back(1)", y.back(1), 0);
    Given.due("a text that is taken does not", Given.told(y, ""), 0);
    Given.due("back(1)", y.back(1), STATE);
    Given.due("keep(1)", y.keep(1), 0);
  }

  private static void imagesStayAsTheyWere() {
    Given.sentence("IMAGE k is PEOPLE, FRONTIERS, LAW, LOADS");
    WeighedSelf x = Given.of("one twin 50 60;one twin 50 60;frontier 2 3;load 1 2 3;");
    x.keep(0);
    x.day(0, 1);
    x.cross(1, 0, 4);
    x.law(2);
    x.err(0, 4);
    x.price(0, 9);
    x.add(30);
    x.keep(1);
    for (int turn = 0; turn < 2; turn++) {
      Given.due("back(0)", x.back(0), 3);
      int[] first = {3, 50, 60, 0, 60, 0, 0};
      for (int what = 0; what < 7; what++) Given.due("one(1, " + what + ")", x.one(1, what), first[what]);
      Given.due("LAW, ERROR, PRICE", x.rule(2) * 100 + x.frontier(0, 0) * 10 + x.frontier(0, 1), 23);
      Given.due("load(3)", x.load(3), BAD);
      x.body(1, 99);
      x.drop(0);
      x.add(7);
      Given.due("back(1)", x.back(1), 4);
      int[] later = {3, 49, 54, 0, 54, 12, 1};
      for (int what = 0; what < 7; what++) Given.due("one(1, " + what + ")", x.one(1, what), later[what]);
      Given.due("the other twin's BOOK", x.one(0, 2), 54);
      Given.due("LAW, ERROR, PRICE", x.rule(2) * 100 + x.frontier(0, 0) * 10 + x.frontier(0, 1), 249);
      Given.due("load(0), load(3)", x.load(0) * 100 + x.load(3), 130);
      x.day(0, 0);
      x.law(1);
    }
  }

  private static void allIsAsTheImage() {
    Given.sentence("All is as IMAGE k (SEEN, TRIED, SHEETS, THE TAPE are no part of it)");
    WeighedSelf x = Given.of("one plain 50 60;frontier 2 3;load 1;");
    x.keep(0);
    for (int i = 0; i < 4; i++) x.see(0, 55);
    for (int i = 0; i < 6; i++) x.probe(0, 55, 55);
    x.sheet(0, 1, 40);
    x.read(1, 0, 0, 1);
    x.feed(0);
    Given.due("back(0)", x.back(0), 1);
    int[] counts = {4, 6, 1, 8, 40, 1};
    for (int what = 0; what < 6; what++) Given.due("count(" + what + ")", x.count(what), counts[what]);
    Given.due("torn()", x.torn(), NULL);
  }

  private static void sheetsHaveNothingAtFirst() {
    Given.sentence("A new object: Nobody, no FRONTIERS; SHEETS have nothing");
    WeighedSelf x = new WeighedSelf();
    for (int k = 0; k < 4; k++) {
      for (int i : new int[] {-1, 0, 39, 40, MIN, MAX}) Given.due("lay(" + k + ", " + i + ")", x.lay(k, i, 0), -10 - NULL);
      for (int lane = 0; lane < 3; lane++) {
        x.read(k, lane, 0, 0);
        Given.due("torn() of no DAYS", x.torn(), 0);
        Given.due("read(" + k + ", " + lane + ")", x.read(k, lane, 0, 1), 0);
        Given.due("torn()", x.torn(), NULL);
      }
    }
    Given.due("count(4)", x.count(4), NONE);
    for (int what = 0; what < 4; what++) Given.due("rule(" + what + ")", x.rule(what), 0);
  }

  private static void sheetsOf0To40Cells() {
    Given.sentence("0 to 40 CELLS; A SHEET is a new row of CELLS 0: 1. BAD: also n above 40; -10 - 4");
    for (int lane = 0; lane < 3; lane++) {
      for (int n = -3; n <= 43; n++) {
        WeighedSelf x = new WeighedSelf();
        int want = n < 0 ? -14 : n > 40 ? BAD : 1;
        Given.due("sheet(0, " + lane + ", " + n + ")", x.sheet(0, lane, n), want);
        Given.due("count(4)", x.count(4), want == 1 ? n : NONE);
        Given.due("lay its last", x.lay(0, n - 1, 0), want != 1 ? -11 : n == 0 ? -12 : 1);
        Given.due("lay behind its last", x.lay(0, n, 0), want != 1 ? -11 : -12);
      }
    }
    WeighedSelf x = new WeighedSelf();
    for (int n : new int[] {MIN, MIN + 1, -41, -256}) Given.due("sheet of " + n, x.sheet(0, 0, n), -14);
    for (int n : new int[] {MAX, 256, 65536, 41}) Given.due("sheet of " + n, x.sheet(0, 0, n), BAD);
    Given.due("count(4)", x.count(4), NONE);
  }

  private static void sheetsAreNew() {
    Given.sentence("A SHEET is a new row of CELLS 0");
    for (int lane = 0; lane < 3; lane++) {
      WeighedSelf x = Given.of("one plain 50 60;");
      x.sheet(1, lane, 40);
      for (int i = 0; i < 40; i++) Given.due("lay(" + i + ")", x.lay(1, i, 1), 1);
      x.sheet(1, lane, 40);
      Given.due("20 DAYS of REST", x.read(1, lane, 0, 20), 20);
      Given.due("BODY", x.one(0, 1), 30);
      x.lay(1, 3, 2);
      Given.due("one that is refused leaves it", x.sheet(1, lane, -1), -14);
      Given.due("one that is refused leaves it", x.sheet(1, lane, 41), BAD);
      Given.due("REST and WALK", x.read(1, lane, 0, 2), 2);
      Given.due("BODY", x.one(0, 1), 27);
      x.sheet(1, lane, 3);
      Given.due("it is shorter then", x.read(1, lane, 0, 20), 1);
      Given.due("torn()", x.torn(), INDEX);
      x.sheet(1, lane, 40);
      Given.due("what it had is not there again", x.read(1, lane, 2, 1), 1);
      Given.due("BODY", x.one(0, 1), 25);
    }
  }

  private static void sheetsRefused() {
    Given.sentence("SHEETS 0 to 3, lanes 0 to 2. BAD ahead of -10 - 4");
    WeighedSelf x = new WeighedSelf();
    for (int k = -2; k <= 5; k++) {
      for (int lane = -2; lane <= 4; lane++) {
        boolean can = k >= 0 && k <= 3 && lane >= 0 && lane <= 2;
        for (int n : new int[] {0, 40}) Given.due("sheet(" + k + ", " + lane + ", " + n + ")", x.sheet(k, lane, n), can ? 1 : BAD);
        Given.due("sheet(" + k + ", " + lane + ", -1)", x.sheet(k, lane, -1), can ? -14 : BAD);
        Given.due("sheet(" + k + ", " + lane + ", 41)", x.sheet(k, lane, 41), BAD);
      }
    }
  }

  private static void cellsOfASheet() {
    Given.sentence("CELL i of a SHEET becomes v: 1. BAD: k; -10 less the FAULT: NULL, INDEX");
    for (int n : new int[] {0, 1, 7, 40}) {
      WeighedSelf x = new WeighedSelf();
      x.sheet(3, 2, n);
      for (int i = -2; i <= 42; i++) Given.due("lay(3, " + i + ") of " + n, x.lay(3, i, i), i >= 0 && i < n ? 1 : -12);
      for (int i : new int[] {MIN, MAX, 256, 65536, -256}) Given.due("lay(3, " + i + ") of " + n, x.lay(3, i, 1), -12);
      for (int k : new int[] {-1, 4, 256, MIN, MAX}) Given.due("lay(" + k + ", 0)", x.lay(k, 0, 1), BAD);
      for (int k : new int[] {-1, 4}) Given.due("BAD is first", x.lay(k, -1, 1), BAD);
    }
    WeighedSelf x = Given.of("one plain 50 60;one walker 50 60;");
    x.sheet(0, 0, 4);
    x.sheet(1, 0, 4);
    x.lay(0, 2, 1);
    Given.due("DAYS", x.read(0, 0, 0, 2), 2);
    Given.due("CELL 2 alone is 1", x.one(0, 6) * 10 + x.one(1, 6), 11);
    x.read(1, 0, 0, 2);
    Given.due("another SHEET is as it was", x.one(0, 6) * 10 + x.one(1, 6), 31);
  }

  /** What a CELL of a lane is for v, by the answers of a read of one DAY: which ONE it is, or -20. */
  private static int whom(int lane, int v) {
    WeighedSelf x = Given.of("one plain 50 60;one plain 50 60;one plain 50 60;one plain 50 60;");
    x.sheet(0, lane, 2);
    x.lay(0, 0, v);
    if (x.read(0, lane, 0, 1) == -20) return -20;
    for (int p = 0; p < 4; p++) if (x.one(p, 6) == 1) return p;
    return NONE;
  }

  private static void lowestBits() {
    Given.sentence("CELL i becomes v (its lowest bits)");
    int[] signs = {0, 1, 3, 4, -1, 127, 128, 255};
    for (int low : signs) {
      for (int high : new int[] {0, 256, -256, 512, 0x7f00, 0x8000, 65536, -65536, 0x10100, MIN, MAX - 65535, MAX - 255}) {
        int v = high + low;
        Given.due(v + " as a BYTE", whom(0, v), in0To3((byte) v));
        Given.due(v + " as a SHORT", whom(1, v), in0To3((short) v));
        Given.due(v + " as an INT", whom(2, v), in0To3(v));
      }
    }
    int[][] due = {{256, 0, -20, -20}, {-255, 1, -20, -20}, {65538, 2, 2, -20}, {-65533, 3, 3, -20}, {128, -20, -20, -20}, {255, -20, -20, -20}, {3, 3, 3, 3}, {MIN, 0, 0, -20}, {MAX, -20, -20, -20}};
    for (int[] row : due) {
      for (int lane = 0; lane < 3; lane++) Given.due(row[0] + " in lane " + lane, whom(lane, row[0]), row[1 + lane]);
    }
  }

  private static int in0To3(int cell) { return cell >= 0 && cell <= 3 ? cell : -20; }

  private static void readOf0To20Days() {
    Given.sentence("n (0 to 20) DAYS: how many went. BAD: k, lane, n");
    for (int n = -2; n <= 23; n++) {
      WeighedSelf x = Given.of("one plain 50 60;");
      x.sheet(2, 1, 40);
      boolean can = n >= 0 && n <= 20;
      Given.due("read of " + n, x.read(2, 1, 0, n), can ? n : BAD);
      Given.due("DAYS", x.one(0, 6), can ? n : 0);
      Given.due("BODY", x.one(0, 1), can ? 50 - n : 50);
      Given.due("torn()", x.torn(), 0);
    }
    WeighedSelf x = Given.of("one plain 50 60;");
    for (int k = 0; k < 4; k++) x.sheet(k, 1, 40);
    for (int k = -2; k <= 5; k++) Given.due("read of SHEET " + k, x.read(k, 1, 0, 1), k >= 0 && k <= 3 ? 1 : BAD);
    for (int lane = -2; lane <= 4; lane++) Given.due("read of lane " + lane, x.read(0, lane, 0, 1), lane < 0 || lane > 2 ? BAD : lane == 1 ? 1 : 0);
    for (int v : new int[] {MIN, MAX, 257, 65537}) {
      Given.due("k " + v, x.read(v, 1, 0, 1), BAD);
      Given.due("lane " + v, x.read(0, v, 0, 1), BAD);
      Given.due("n " + v, x.read(0, 1, 0, v), BAD);
    }
    Given.due("DAYS", x.one(0, 6), 5);
  }

  private static void readFromCellToCell() {
    Given.sentence("two CELLS each from CELL f on; INDEX");
    for (int size : new int[] {0, 1, 2, 5, 40}) {
      for (int f = -4; f <= 42; f++) {
        for (int n : new int[] {1, 2, 20}) {
          WeighedSelf x = Given.of("one faster 50 60;");
          x.sheet(0, 2, size);
          int whole = f < 0 || f >= size ? 0 : Math.min(n, (size - f) / 2);
          Given.due("read of " + n + " from " + f + " of " + size, x.read(0, 2, f, n), whole);
          Given.due("torn()", x.torn(), whole < n ? INDEX : 0);
          Given.due("DAYS", x.one(0, 6), whole);
        }
      }
    }
    WeighedSelf x = Given.of("one faster 50 60;");
    x.sheet(0, 2, 40);
    for (int f : new int[] {MIN, MIN + 1, MAX, MAX - 1, MAX - 37, -1, -2, -40, 256, 65536, 1 << 30}) {
      x.read(0, 2, 0, 0);
      Given.due("read from " + f, x.read(0, 2, f, 20), 0);
      Given.due("torn()", x.torn(), INDEX);
    }
    Given.due("DAYS", x.one(0, 6), 0);
  }

  private static void readOfAnotherLane() {
    Given.sentence("3 CAST (another lane)");
    for (int lane = 0; lane < 3; lane++) {
      for (int as = 0; as < 3; as++) {
        for (int size : new int[] {0, 2, 40}) {
          for (int f : new int[] {-1, 0, 40, MIN, MAX}) {
            WeighedSelf x = Given.of("one faster 50 60;");
            x.sheet(0, lane, size);
            boolean there = lane == as && f == 0 && size > 0;
            Given.due("lane " + lane + " as of " + as + " from " + f, x.read(0, as, f, 1), there ? 1 : 0);
            Given.due("torn()", x.torn(), lane != as ? CAST : there ? 0 : INDEX);
            Given.due("no DAYS", x.read(0, as, f, 0), 0);
            Given.due("torn() of no DAYS", x.torn(), 0);
            Given.due("DAYS", x.one(0, 6), there ? 1 : 0);
          }
        }
      }
    }
  }

  private static void readOfNothing() {
    Given.sentence("1 NULL (nothing)");
    WeighedSelf x = Given.of("one faster 50 60;");
    for (int k = 0; k < 3; k++) x.sheet(k, k, 40);
    for (int lane = 0; lane < 3; lane++) {
      for (int f : new int[] {-1, 0, 40, MIN, MAX}) {
        x.read(0, 0, 0, 0);
        Given.due("read as of " + lane + " from " + f, x.read(3, lane, f, 20), 0);
        Given.due("torn()", x.torn(), NULL);
      }
    }
    Given.due("DAYS", x.one(0, 6), 0);
  }

  private static void wholeAheadWent() {
    Given.sentence("What the machine refuses: those that were whole ahead went");
    for (int size = 0; size <= 40; size++) {
      WeighedSelf x = Given.of("one plain 50 60;");
      x.sheet(0, 0, size);
      Given.due("of " + size + " CELLS", x.read(0, 0, 0, 20), size / 2);
      Given.due("BODY", x.one(0, 1), 50 - size / 2);
      Given.due("torn()", x.torn(), size == 40 ? 0 : INDEX);
    }
    WeighedSelf x = Given.of("one plain 50 60;");
    x.sheet(0, 0, 3);
    x.lay(0, 2, 9);
    Given.due("half a DAY is not whole, whoever's it is", x.read(0, 0, 0, 2), 1);
    Given.due("BODY", x.one(0, 1), 49);
    Given.due("torn()", x.torn(), INDEX);
  }

  private static void refusedByDay() {
    Given.sentence("-20 less i: the i-th, whole, is refused by day(): then none went");
    for (int i = 0; i < 20; i++) {
      WeighedSelf x = Given.of("one plain 50 60;one twin 50 60;one twin 50 60;");
      x.sheet(0, 1, 40);
      for (int k = 0; k < i; k++) {
        x.lay(0, 2 * k, k % 3);
        x.lay(0, 2 * k + 1, k % 2);
      }
      x.lay(0, 2 * i, 3);
      for (int n = Math.max(1, i); n <= 20; n++) {
        if (n == i) continue;
        Given.due("the " + i + "-th of " + n, x.read(0, 1, 0, n), -20 - i);
      }
      for (int p = 0; p < 3; p++) {
        int[] want = {p == 0 ? 0 : 3, 50, 60, 0, 60, 0, 0};
        for (int what = 0; what < 7; what++) Given.due("one(" + p + ", " + what + ")", x.one(p, what), want[what]);
      }
      if (i > 0) Given.due("those ahead of it alone", x.read(0, 1, 0, i), i);
      Given.due("DAYS", x.one(0, 6) + x.one(1, 6) + x.one(2, 6), i);
    }
  }

  private static void refusedInWhicheverWay() {
    Given.sentence("refused by day() (in whichever way)");
    int[][] days = {{1, 0}, {-1, 0}, {0, 3}, {0, -1}, {127, 0}, {-128, 0}, {0, 127}, {0, -128}};
    for (int[] day : days) {
      WeighedSelf x = Given.of("one faster 50 60;");
      Given.due("BAD: " + day[0] + ", " + day[1], readTwo(x, day), -21);
      Given.due("DAYS", x.one(0, 6), 0);
    }
    WeighedSelf x = Given.of("one faster 20 60;");
    Given.due("STATE: below LEAN", readTwo(x, new int[] {0, 2}), -21);
    x.body(0, 99);
    Given.due("STATE: above 99", readTwo(x, new int[] {0, 1}), -21);
    Given.rest(x, 6);
    x.law(1);
    x.body(0, 50);
    Given.due("STATE: LAW 1", readTwo(x, new int[] {0, 1}), -21);
    Given.rest(x, 992);
    Given.due("DAYS", x.one(0, 6), 998);
    Given.due("FULL", readTwo(x, new int[] {0, 0}), -21);
    Given.due("DAYS", x.one(0, 6), 998);
    Given.due("EATEN", x.one(0, 3), 0);
    WeighedSelf y = new WeighedSelf();
    y.sheet(0, 0, 2);
    Given.due("BAD: nobody is there", y.read(0, 0, 0, 1), -20);
  }

  /** A DAY of REST of ONE 0, and such a DAY behind it. */
  private static int readTwo(WeighedSelf x, int[] second) {
    x.sheet(0, 0, 4);
    x.lay(0, 2, second[0]);
    x.lay(0, 3, second[1]);
    return x.read(0, 0, 0, 2);
  }

  private static void theFirstMet() {
    Given.sentence("read: the first met");
    WeighedSelf x = Given.of("one plain 50 60;");
    x.sheet(0, 0, 5);
    x.lay(0, 2, 9);
    Given.due("a DAY that is refused ahead of INDEX", x.read(0, 0, 0, 20), -21);
    Given.due("none went", x.one(0, 6), 0);
    Given.due("torn()", x.torn(), 0);
    x.lay(0, 0, 9);
    Given.due("the first of two", x.read(0, 0, 0, 20), -20);
    Given.due("INDEX ahead of a DAY that would be refused", x.read(0, 0, -2, 20), 0);
    Given.due("torn()", x.torn(), INDEX);
    x.read(0, 0, 0, 0);
    Given.due("CAST ahead of a DAY that would be refused", x.read(0, 1, 0, 20), 0);
    Given.due("torn()", x.torn(), CAST);
  }

  private static void readOneBehindAnother() {
    Given.sentence("one behind another as by day()");
    WeighedSelf x = Given.of("law 1;one plain 21 60;one twin 97 60;one twin 50 60;");
    int[] days = {0, 0, 0, 1, 0, 2, 1, 0, 1, 2, 1, 1, 2, 0, 2, 1};
    x.sheet(0, 2, days.length);
    for (int i = 0; i < days.length; i++) x.lay(0, i, days[i]);
    Given.due("each can be by those ahead of it", x.read(0, 2, 0, 8), 8);
    int[][] want = {{0, 20, 60, 2, 58, 0, 3}, {3, 96, 60, 4, 56, 0, 3}, {3, 51, 60, 4, 56, 0, 2}};
    for (int p = 0; p < 3; p++) {
      for (int what = 0; what < 7; what++) Given.due("one(" + p + ", " + what + ")", x.one(p, what), want[p][what]);
    }
    Given.due("the same can not be again", x.read(0, 2, 0, 8), -20);
  }

  private static void thousandthByRead() {
    Given.sentence("as by day(): his 1000th");
    WeighedSelf x = Given.of("one faster 50 60;");
    Given.rest(x, 980);
    x.sheet(0, 0, 40);
    Given.due("his 1000th is the last of 20", x.read(0, 0, 0, 20), -39);
    Given.due("DAYS", x.one(0, 6), 980);
    Given.due("his 999th", x.read(0, 0, 0, 19), 19);
    Given.due("DAYS", x.one(0, 6), 999);
    Given.due("his 1000th", x.read(0, 0, 0, 1), -20);
    Given.due("none", x.read(0, 0, 0, 0), 0);
  }

  private static void tornOfTheLatest() {
    Given.sentence("torn: The FAULT of the latest read() that came to an end; 0");
    int[] faults = {NULL, INDEX, CAST, 0};
    for (int ahead : faults) {
      WeighedSelf x = Given.of("one faster 50 60;");
      Given.due("torn() of none", x.torn(), 0);
      x.sheet(0, 0, 2);
      x.sheet(1, 1, 2);
      x.lay(1, 0, 9);
      x.read(ahead == NULL ? 3 : 0, ahead == CAST ? 1 : 0, ahead == INDEX ? 1 : 0, 1);
      Given.due("torn()", x.torn(), ahead);
      int[] refused = {x.read(4, 0, 0, 1), x.read(0, 3, 0, 1), x.read(0, 0, 0, 21), x.read(1, 1, 0, 1)};
      for (int i = 0; i < 4; i++) Given.due("a read that is refused", refused[i], i < 3 ? BAD : -20);
      Given.due("torn() behind them", x.torn(), ahead);
      x.lay(3, 0, 0);
      x.lay(0, 2, 0);
      x.sheet(0, 0, -1);
      Given.due("torn() behind FAULTS of others", x.torn(), ahead);
      Given.told(x, "law 1;");
      Given.due("torn() behind a text", x.torn(), ahead);
      x.read(1, 1, 0, 0);
      Given.due("torn() of no DAYS", x.torn(), 0);
    }
  }

  private static void counts() {
    Given.sentence("count: 0 SEEN, 1 TRIED, 2 IMAGES, 3 bytes, 4 CELLS of SHEET 0 (NONE: nothing), 5 all LOADS, summed. BAD");
    WeighedSelf x = new WeighedSelf();
    int[] first = {0, 0, 0, 0, NONE, 0};
    for (int what = -2; what <= 8; what++) Given.due("count(" + what + ")", x.count(what), what < 0 || what > 5 ? BAD : first[what]);
    for (int what : new int[] {MIN, MAX, 256, 65536}) Given.due("count(" + what + ")", x.count(what), BAD);
    x.sheet(1, 0, 7);
    Given.due("another SHEET", x.count(4), NONE);
    for (int n : new int[] {0, 40, 1}) {
      x.sheet(0, 2, n);
      Given.due("CELLS of SHEET 0", x.count(4), n);
    }
    Given.told(x, "frontier 2 1;load 30 30 30 30 30;");
    Given.due("the most LOADS", x.count(5), 150);
    x.drop(4);
    Given.due("one less", x.count(5), 120);
    x.add(1);
    Given.due("the least more", x.count(5), 121);
    for (int i = 0; i < 7; i++) {
      x.see(0, 1);
      x.probe(0, 1, 1);
      x.keep(i % 2);
    }
    Given.feed(x, Given.blanks(320));
    x.feed(0);
    int[] full = {4, 6, 2, 320, 1, 121};
    for (int what = 0; what < 6; what++) Given.due("count(" + what + ") of what is full", x.count(what), full[what]);
  }
}
