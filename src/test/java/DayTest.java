/** The boundaries of what is changed and of days: promises 6 to 20, and what "Terms" says of LEAN, LAW, LIMIT, ROOM. */
public final class DayTest {
  private static final int BAD = Given.BAD, STATE = Given.STATE, FULL = Given.FULL, NONE = Given.NONE;
  /** By how much BODY is more behind REST, EAT, WALK, for each KIND. */
  private static final int[][] MORE = {{-1, 2, -2}, {-1, 3, -2}, {0, 2, -2}, {-1, 2, -2}, {-1, 2, -1}};

  public static void main(String[] args) {
    zeroAtFirst();
    numbersThatBecome();
    bodiesThatBecome();
    booksThatBecome();
    loadsMore();
    loadsFirst();
    leanAnd99();
    noEatingOnDays7Divides();
    noOtherLawForbidsEating();
    thousandthDay();
    thousandthCrossing();
    thousandthIsHisOwn();
    shownIsNoMoreThanLimit();
    goods0To99();
    fiveByLaw2();
    bodyAsByRest();
    whatHeHasThen();
    moneyNoMoreThan9999();
    limitIs0AtLeast();
    twinsHaveOneBook();
    mayOfFrontiers();
    roomIsTheMost();
    firstThatFits();
    Given.finish("days keep their bounds");
  }

  private static WeighedSelf one(int kind, int body, int book, String more) {
    return Given.of("one " + Given.KINDS[kind] + " " + body + " " + book + ";" + more);
  }

  private static void zeroAtFirst() {
    Given.sentence("EATEN (0 at first), MONEY, DAYS (0 at first), LAW (0)");
    for (int kind = 0; kind < 5; kind++) {
      WeighedSelf x = one(kind, 55, 66, "");
      int[] want = {kind, 55, 66, 0, 66, 0, 0};
      for (int what = 0; what < 7; what++) Given.due("one(0, " + what + ")", x.one(0, what), want[what]);
      Given.due("LAW", x.rule(2), 0);
    }
    Given.due("LAW of a new object", new WeighedSelf().rule(2), 0);
  }

  private static void numbersThatBecome() {
    Given.sentence("LAW, ERROR, PRICE becomes v: what it was. BAD");
    WeighedSelf x = Given.of("frontier 3 5;frontier 1 7;");
    int law = 0, error = 1, price = 7;
    for (int v = -2; v <= 11; v++) {
      boolean isLaw = v >= 0 && v <= 2, isError = v >= 0 && v <= 4, isPrice = v >= 1 && v <= 9;
      Given.due("law(" + v + ")", x.law(v), isLaw ? law : BAD);
      Given.due("err(1, " + v + ")", x.err(1, v), isError ? error : BAD);
      Given.due("price(1, " + v + ")", x.price(1, v), isPrice ? price : BAD);
      law = isLaw ? v : law;
      error = isError ? v : error;
      price = isPrice ? v : price;
      Given.due("LAW", x.rule(2), law);
      Given.due("ERROR", x.frontier(1, 0), error);
      Given.due("PRICE", x.frontier(1, 1), price);
    }
    Given.due("the other's ERROR", x.frontier(0, 0), 3);
    Given.due("the other's PRICE", x.frontier(0, 1), 5);
  }

  private static void bodiesThatBecome() {
    Given.sentence("BODY of a ONE becomes v: what it was. BAD (below LEAN, above 99)");
    for (int kind = 0; kind < 5; kind++) {
      WeighedSelf x = one(kind, 50, 60, "one plain 33 44;");
      x.day(0, 1);
      int body = 50 + MORE[kind][1], eaten = x.one(0, 3);
      for (int v = 15; v <= 105; v++) {
        boolean can = v >= Given.lean(kind) && v <= 99;
        Given.due("body(0, " + v + ") of KIND " + kind, x.body(0, v), can ? body : BAD);
        body = can ? v : body;
        Given.due("BODY of KIND " + kind, x.one(0, 1), body);
      }
      int[] want = {60, eaten, 60 - eaten, 0, 1};
      for (int what = 2; what < 7; what++) Given.due("one(0, " + what + ")", x.one(0, what), want[what - 2]);
      Given.due("the other's BODY", x.one(1, 1), 33);
    }
  }

  private static void booksThatBecome() {
    Given.sentence("BOOK of a ONE becomes v, EATEN 0: what BOOK was. BAD");
    WeighedSelf x = Given.of("one plain 50 60;one plain 50 61;");
    int book = 60;
    for (int v : new int[] {-1, 0, 1, 198, 199, 200, 201, 7}) {
      x.body(0, 50);
      x.day(0, 1);
      int eaten = x.one(0, 3);
      boolean can = v >= 0 && v <= 199;
      Given.due("book(0, " + v + ")", x.book(0, v), can ? book : BAD);
      book = can ? v : book;
      Given.due("BOOK", x.one(0, 2), book);
      Given.due("EATEN", x.one(0, 3), can ? 0 : eaten);
    }
    Given.due("the other's BOOK", x.one(1, 2), 61);
  }

  private static void loadsMore() {
    Given.sentence("add: A LOAD more: how many there are. BAD; FULL");
    for (int v = -1; v <= 33; v++) {
      WeighedSelf x = new WeighedSelf();
      boolean can = v >= 1 && v <= 30;
      for (int i = 1; i <= 5; i++) {
        Given.due("add(" + v + ")", x.add(v), can ? i : BAD);
        Given.due("load", x.load(i - 1), can ? v : BAD);
        Given.due("LOADS", x.rule(3), can ? i : 0);
      }
      Given.due("the 6th, add(" + v + ")", x.add(v), can ? FULL : BAD);
      Given.due("LOADS", x.rule(3), can ? 5 : 0);
      Given.due("load(5)", x.load(5), BAD);
      Given.due("all LOADS, summed", x.count(5), can ? 5 * v : 0);
    }
    WeighedSelf x = Given.of("load 1 2 3 4;");
    Given.due("a 5th behind a text's 4", x.add(30), 5);
    Given.due("a 6th", x.add(1), FULL);
    x.drop(4);
    Given.due("there is room again", x.add(6), 5);
    Given.due("load(4)", x.load(4), 6);
  }

  private static void loadsFirst() {
    Given.sentence("drop: LOADS are the first n alone: how many there were. BAD");
    for (int there = 0; there <= 5; there++) {
      for (int n = -1; n <= 6; n++) {
        WeighedSelf x = new WeighedSelf();
        for (int i = 0; i < there; i++) x.add(11 + i);
        boolean can = n >= 0 && n <= there;
        Given.due("drop(" + n + ") of " + there, x.drop(n), can ? there : BAD);
        int left = can ? n : there;
        Given.due("LOADS", x.rule(3), left);
        for (int i = 0; i < 5; i++) Given.due("load(" + i + ")", x.load(i), i < left ? 11 + i : BAD);
      }
    }
  }

  private static void leanAnd99() {
    Given.sentence("all can be, if BODY is not below LEAN, not above 99 by it; STATE: it can not be");
    for (int kind = 0; kind < 5; kind++) {
      for (int body = Given.lean(kind); body <= 99; body++) {
        int may = 0;
        for (int what = 0; what < 3; what++) {
          int then = body + MORE[kind][what];
          boolean can = then >= Given.lean(kind) && then <= 99;
          may += can ? 1 << what : 0;
          WeighedSelf x = one(kind, body, 100, "");
          String call = "day(0, " + what + ") of KIND " + kind + ", BODY " + body;
          Given.due(call, x.day(0, what), can ? then : STATE);
          Given.due("BODY behind " + call, x.one(0, 1), can ? then : body);
          Given.due("EATEN behind " + call, x.one(0, 3), can && what == 1 ? MORE[kind][1] : 0);
          Given.due("DAYS behind " + call, x.one(0, 6), can ? 1 : 0);
          Given.due("BOOK behind " + call, x.one(0, 2), 100);
          Given.due("MONEY behind " + call, x.one(0, 5), 0);
        }
        Given.due("may(0) of KIND " + kind + ", BODY " + body, one(kind, body, 100, "").may(0), may);
      }
    }
  }

  private static void noEatingOnDays7Divides() {
    Given.sentence("LAW 1: not on a DAY that 7 divides (his DAYS ahead of it, 0, too)");
    for (int days = 0; days <= 998; days++) {
      if (days > 30 && days < 985 && days % 97 > 1) continue;
      WeighedSelf x = one(2, 50, 60, "");
      Given.rest(x, days);
      x.law(1);
      boolean can = days != 0 && days % 7 != 0;
      Given.due("DAYS", x.one(0, 6), days);
      Given.due("may(0) on DAY " + days, x.may(0), can ? 7 : 5);
      Given.due("EAT on DAY " + days, x.day(0, 1), can ? 52 : STATE);
      Given.due("EATEN on DAY " + days, x.one(0, 3), can ? 2 : 0);
      Given.due("DAYS", x.one(0, 6), can ? days + 1 : days);
    }
    for (int what : new int[] {0, 2}) Given.due("REST, WALK on DAY 0", Given.of("law 1;one plain 50 60;").day(0, what), 49 - what / 2);
    WeighedSelf x = Given.of("law 1;one plain 50 60;one plain 50 60;");
    x.day(0, 0);
    Given.due("another's DAYS", x.day(1, 1), STATE);
    Given.due("his own", x.day(0, 1), 51);
  }

  private static void noOtherLawForbidsEating() {
    Given.sentence("LAW 0, LAW 2: EAT on every DAY");
    for (int law = 0; law <= 2; law += 2) {
      WeighedSelf x = Given.of("law " + law + ";one plain 20 60;");
      for (int day = 0; day < 15; day++) {
        Given.due("EAT on DAY " + day + " by LAW " + law, x.day(0, 1), 22);
        x.body(0, 20);
      }
    }
  }

  private static void thousandthDay() {
    Given.sentence("day: FULL: it would be his 1000th");
    for (int what = 0; what < 3; what++) {
      WeighedSelf x = one(2, 50, 60, "");
      Given.rest(x, 998);
      int then = 50 + MORE[2][what];
      Given.due("his 999th, " + what, x.day(0, what), then);
      Given.due("DAYS", x.one(0, 6), 999);
      for (int next = 0; next < 3; next++) Given.due("his 1000th, " + next, x.day(0, next), FULL);
      Given.due("BODY", x.one(0, 1), then);
      Given.due("EATEN", x.one(0, 3), what == 1 ? 2 : 0);
      Given.due("DAYS", x.one(0, 6), 999);
      Given.due("what can be is not asked of it", x.may(0), 7);
    }
  }

  private static void thousandthCrossing() {
    Given.sentence("cross: FULL: likewise");
    WeighedSelf x = one(2, 50, 60, "frontier 2 3;");
    Given.rest(x, 998);
    Given.due("his 999th", x.cross(0, 0, 7), 57);
    Given.due("DAYS", x.one(0, 6), 999);
    Given.due("his 1000th", x.cross(0, 0, 0), FULL);
    Given.due("his 1000th", x.cross(0, 0, 7), FULL);
    Given.due("STATE is first", x.cross(0, 0, 8), STATE);
    Given.due("MONEY", x.one(0, 5), 21);
    Given.due("BOOK", x.one(0, 2), 57);
    Given.due("DAYS", x.one(0, 6), 999);
    Given.due("what he could is not asked of it", x.room(0, 0), 7);
    Given.due("may(0)", x.may(0), 15);
  }

  private static void thousandthIsHisOwn() {
    Given.sentence("FULL: it would be HIS 1000th");
    WeighedSelf x = Given.of("one faster 50 60;one twin 50 60;frontier 2 3;");
    Given.rest(x, 999);
    Given.due("his", x.day(0, 0), FULL);
    Given.due("another's", x.day(1, 0), 49);
    Given.due("another's crossing", x.cross(1, 0, 1), 50);
    Given.told(x, "one faster 50 60;");
    Given.due("a text begins his DAYS anew", x.day(0, 0), 50);
  }

  private static void shownIsNoMoreThanLimit() {
    Given.sentence("SHOWN is BODY and goods and ERROR less 2; no more than LIMIT");
    for (int error = 0; error <= 4; error++) {
      for (int goods = 0; goods <= 99; goods++) {
        int shown = 50 + goods + error - 2;
        WeighedSelf x = one(0, 50, shown, "frontier " + error + " 1;");
        Given.due("as much as LIMIT", x.cross(0, 0, goods), shown);
        Given.due("BOOK", x.one(0, 2), shown);
        WeighedSelf y = one(0, 50, shown - 1, "frontier " + error + " 1;");
        Given.due("1 more than LIMIT", y.cross(0, 0, goods), STATE);
        Given.due("BOOK", y.one(0, 2), shown - 1);
        WeighedSelf z = one(0, 48, shown + 1, "frontier " + error + " 1;");
        z.day(0, 1);
        Given.due("EATEN makes it 1 less", z.cross(0, 0, goods), STATE);
        z.book(0, shown);
        Given.due("EATEN is 0 then", z.cross(0, 0, goods), shown);
      }
    }
  }

  private static void goods0To99() {
    Given.sentence("goods (0 to 99)");
    for (int goods : new int[] {-1, 0, 1, 98, 99, 100}) {
      WeighedSelf x = one(0, 50, 199, "frontier 2 9;");
      boolean can = goods >= 0 && goods <= 99;
      Given.due("cross with " + goods, x.cross(0, 0, goods), can ? 50 + goods : BAD);
      Given.due("MONEY", x.one(0, 5), can ? 9 * goods : 0);
    }
  }

  private static void fiveByLaw2() {
    Given.sentence("LAW 2: goods 5 at most");
    for (int law = 0; law <= 2; law++) {
      for (int goods = 0; goods <= 99; goods++) {
        WeighedSelf x = one(0, 50, 199, "frontier 2 9;law " + law + ";");
        Given.due("goods " + goods + " by LAW " + law, x.cross(0, 0, goods), law == 2 && goods > 5 ? STATE : 50 + goods);
      }
    }
  }

  private static void bodyAsByRest() {
    Given.sentence("CROSS: BODY is as by REST (not below LEAN by it)");
    for (int kind = 0; kind < 5; kind++) {
      for (int body = Given.lean(kind); body <= 99; body++) {
        int then = body + MORE[kind][0];
        boolean can = then >= Given.lean(kind);
        WeighedSelf x = one(kind, body, 199, "frontier 2 9;");
        String whom = " of KIND " + kind + ", BODY " + body;
        Given.due("room" + whom, x.room(0, 0), can ? 99 : NONE);
        Given.due("may" + whom, x.may(0) & 8, can ? 8 : 0);
        Given.due("cross" + whom, x.cross(0, 0, 1), can ? body + 1 : STATE);
        Given.due("BODY" + whom, x.one(0, 1), can ? then : body);
        Given.due("DAYS" + whom, x.one(0, 6), can ? 1 : 0);
      }
    }
  }

  private static void whatHeHasThen() {
    Given.sentence("he has PRICE for each of goods more, BOOK becomes SHOWN, EATEN 0");
    for (int price = 1; price <= 9; price++) {
      WeighedSelf x = one(1, 50, 80, "frontier 1 9;frontier 3 " + price + ";");
      x.day(0, 1);
      Given.due("EATEN", x.one(0, 3), 3);
      Given.due("cross", x.cross(0, 1, 23), 77);
      int[] want = {1, 52, 77, 0, 77, 23 * price, 2};
      for (int what = 0; what < 7; what++) Given.due("one(0, " + what + ")", x.one(0, what), want[what]);
      Given.due("without goods", x.cross(0, 1, 0), 53);
      Given.due("MONEY", x.one(0, 5), 23 * price);
    }
  }

  private static void moneyNoMoreThan9999() {
    Given.sentence("FULL: MONEY would be more than 9999");
    for (int goods = 0; goods <= 99; goods++) {
      WeighedSelf x = rich();
      x.price(0, 2);
      boolean can = 9801 + 2 * goods <= 9999;
      Given.due("MONEY 9801 and 2 for each of " + goods, x.cross(0, 0, goods), can ? 20 + goods : FULL);
      Given.due("MONEY", x.one(0, 5), can ? 9801 + 2 * goods : 9801);
    }
    WeighedSelf x = rich();
    Given.due("to 9999", x.cross(0, 0, 22), 42);
    Given.due("MONEY", x.one(0, 5), 9999);
    x.price(0, 1);
    x.book(0, 199);
    Given.due("1 more", x.cross(0, 0, 1), FULL);
    Given.due("STATE is first", x.cross(0, 0, 99) + x.law(2) + x.cross(0, 0, 6), FULL + STATE);
    Given.due("BOOK", x.one(0, 2), 199);
    Given.due("none more", x.cross(0, 0, 0), 20);
    Given.due("a day at home", x.day(0, 0), 20);
  }

  /** He has 9801, and BOOK 199, and PRICE is 9. */
  private static WeighedSelf rich() {
    WeighedSelf x = one(2, 20, 199, "frontier 2 9;");
    for (int i = 0; i < 11; i++) {
      x.cross(0, 0, 99);
      x.book(0, 199);
    }
    return x;
  }

  private static void limitIs0AtLeast() {
    Given.sentence("LIMIT: BOOK less EATEN, 0 at least");
    for (int book = 0; book <= 12; book++) {
      WeighedSelf x = one(0, 50, book, ""), y = one(1, 50, book, "");
      for (int meals = 1; meals <= 6; meals++) {
        x.day(0, 1);
        y.day(0, 1);
        Given.due("EATEN", x.one(0, 3), 2 * meals);
        Given.due("LIMIT of " + book, x.one(0, 4), Math.max(0, book - 2 * meals));
        Given.due("EATEN of an abbot", y.one(0, 3), 3 * meals);
        Given.due("LIMIT of an abbot, " + book, y.one(0, 4), Math.max(0, book - 3 * meals));
        Given.due("BOOK", x.one(0, 2), book);
      }
    }
    Given.due("LIMIT of 199", one(0, 50, 199, "").one(0, 4), 199);
  }

  private static void twinsHaveOneBook() {
    Given.sentence("Twins have one BOOK, one EATEN together");
    WeighedSelf x = Given.of("one twin 30 60;one plain 30 61;one twin 40 1;one twin 50 2;frontier 2 1;");
    for (int p : new int[] {0, 2, 3}) x.day(p, 1);
    x.day(1, 1);
    int[] eaten = {6, 2, 6, 6}, limit = {54, 59, 54, 54};
    for (int p = 0; p < 4; p++) {
      Given.due("EATEN of " + p, x.one(p, 3), eaten[p]);
      Given.due("LIMIT of " + p, x.one(p, 4), limit[p]);
      Given.due("DAYS of " + p, x.one(p, 6), 1);
    }
    Given.due("more than the LIMIT of all", x.cross(3, 0, 3), STATE);
    Given.due("as much as the LIMIT of all", x.cross(3, 0, 2), 54);
    int[] book = {54, 61, 54, 54};
    for (int p = 0; p < 4; p++) {
      Given.due("BOOK of " + p, x.one(p, 2), book[p]);
      Given.due("EATEN of " + p, x.one(p, 3), p == 1 ? 2 : 0);
      Given.due("MONEY of " + p, x.one(p, 5), p == 3 ? 2 : 0);
    }
    Given.due("book of a later twin", x.book(2, 199), 54);
    for (int p = 0; p < 4; p++) Given.due("BOOK of " + p, x.one(p, 2), p == 1 ? 61 : 199);
    Given.due("BAD changes none", x.book(2, 200), BAD);
    for (int p = 0; p < 4; p++) Given.due("BOOK of " + p, x.one(p, 2), p == 1 ? 61 : 199);
  }

  private static void mayOfFrontiers() {
    Given.sentence("may: 3 and f: to CROSS a FRONTIER with 0 goods");
    String[] frontiers = {"", "frontier 4 1;", "frontier 4 1;frontier 2 1;", "frontier 4 1;frontier 2 1;frontier 0 1;"};
    for (int many = 0; many <= 3; many++) {
      for (int book = 46; book <= 54; book++) {
        int want = 7;
        for (int f = 0; f < many; f++) want += 50 + (4 - 2 * f) - 2 <= book ? 8 << f : 0;
        WeighedSelf x = one(0, 50, book, frontiers[many]);
        Given.due("may(0) of BOOK " + book + " at " + many, x.may(0), want);
        for (int f = 0; f < many; f++) {
          WeighedSelf y = one(0, 50, book, frontiers[many]);
          Given.due("cross there", y.cross(0, f, 0), (want >> 3 + f & 1) == 1 ? 52 - 2 * f : STATE);
        }
      }
    }
  }

  private static void roomIsTheMost() {
    Given.sentence("ROOM: the most goods with which he can CROSS. NONE: he can not CROSS there, not without goods either");
    for (int law = 0; law <= 2; law++) {
      int most = law == 2 ? 5 : 99;
      for (int book = 0; book <= 199; book++) {
        for (int error = 0; error <= 4; error += 2) {
          WeighedSelf x = one(4, 60, book, "frontier " + error + " 1;law " + law + ";");
          int left = book - 60 - error + 2;
          int want = left < 0 ? NONE : Math.min(left, most);
          Given.due("room of BOOK " + book + ", ERROR " + error + ", LAW " + law, x.room(0, 0), want);
          if (want == NONE) Given.due("without goods", x.cross(0, 0, 0), STATE);
          if (want >= 0 && want < 99) Given.due("1 more", x.cross(0, 0, want + 1), STATE);
          if (want >= 0) Given.due("so much", x.cross(0, 0, want), 60 + want + error - 2);
        }
      }
    }
    Given.due("by EATEN", roomOfOneWhoAte(64), 2);
    Given.due("by EATEN", roomOfOneWhoAte(62), 0);
    Given.due("by EATEN", roomOfOneWhoAte(61), NONE);
  }

  /** BODY 60, ERROR 2, EATEN 2. */
  private static int roomOfOneWhoAte(int book) {
    WeighedSelf x = one(0, 58, book, "frontier 2 1;");
    x.day(0, 1);
    return x.room(0, 0);
  }

  private static void firstThatFits() {
    Given.sentence("the first that fits: BAD, STATE, FULL, NONE");
    WeighedSelf x = Given.of("one faster 20 199;frontier 2 9;load 1 1 1 1 1;");
    Given.rest(x, 999);
    Given.due("BAD ahead of FULL", x.add(31), BAD);
    Given.due("BAD ahead of FULL", x.add(0), BAD);
    Given.due("BAD ahead of FULL", x.day(0, 3), BAD);
    Given.due("BAD ahead of FULL", x.day(1, 0), BAD);
    Given.due("STATE ahead of FULL", x.day(0, 2), STATE);
    Given.due("BAD ahead of FULL", x.cross(0, 0, 100), BAD);
    Given.due("BAD ahead of FULL", x.cross(0, 1, 0), BAD);
    x.book(0, 19);
    Given.due("BAD ahead of STATE", x.cross(0, 0, 100), BAD);
    Given.due("STATE ahead of FULL", x.cross(0, 0, 0), STATE);
    Given.due("BAD ahead of NONE", x.room(0, 1), BAD);
    Given.due("NONE", x.room(0, 0), NONE);
  }
}
