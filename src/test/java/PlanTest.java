import java.math.BigInteger;

/** The boundaries of what is planned, seen, tried and drifted: promises 21 to 32. */
public final class PlanTest {
  private static final int BAD = Given.BAD, FULL = Given.FULL, NONE = Given.NONE;
  private static final int MIN = Integer.MIN_VALUE, MAX = Integer.MAX_VALUE;

  public static void main(String[] args) {
    seasonOf0To8Days();
    seasonWhoseRowCanNotBe();
    seasonByLean();
    seasonByLaws();
    plansByHisDays();
    seasonOfTheFirstRow();
    seasonPastThousandAnd9999();
    bestOfNobody();
    bestOfSeveral();
    shareByRoom();
    shareOfLoads();
    shareOfTheFirst();
    spanAtLeanAnd99();
    spanOf0To6Days();
    spanOfNoRow();
    goodsFewestAndMost();
    goodsWhateverLimitAndLaw();
    seenAre4();
    seenOfAnotherOne();
    seenByBounds();
    triedAre6();
    errorsTried();
    driftOf1To60Days();
    driftByAnySeed();
    driftAtBounds();
    firstThatFits();
    Given.finish("plans keep their bounds");
  }

  private static void seasonOf0To8Days() {
    Given.sentence("A SEASON of n DAYS (0 to 8): MONEY more (what 0); 10 and k: DAY k. BAD (also k no less than n)");
    WeighedSelf x = Given.of("law 2;one walker 40 45;frontier 2 7;frontier 2 7;");
    for (int n = -1; n <= 10; n++) {
      boolean can = n >= 0 && n <= 8;
      Given.due("season of " + n, x.season(0, n, 0), can ? 35 * n : BAD);
      for (int k = -10; k <= 10; k++) {
        if (k == -10) continue;
        Given.due("DAY " + k + " of " + n, x.season(0, n, 10 + k), can && k >= 0 && k < n ? 3 : BAD);
      }
    }
    for (int n : new int[] {MIN, MAX, MAX - 9, MIN + 8}) {
      Given.due("season of " + n, x.season(0, n, 0), BAD);
      Given.due("DAY 0 of " + n, x.season(0, n, 10), BAD);
    }
    for (int what : new int[] {MIN, MIN + 10, MAX, 10 + 256, 10 + 65536}) Given.due("what " + what, x.season(0, 8, what), BAD);
    Given.due("MONEY is as it was", x.one(0, 5), 0);
    x.cross(0, 0, 5);
    Given.due("MONEY more, not all of it", x.season(0, 1, 0), 35);
  }

  private static void seasonWhoseRowCanNotBe() {
    Given.sentence("season: NONE: no row can be");
    WeighedSelf x = Given.of("law 1;one plain 20 199;one abbot 40 199;one faster 20 199;one walker 20 199;frontier 2 1;");
    int[] money = {NONE, NONE, 99, NONE};
    for (int p = 0; p < 4; p++) {
      for (int n = 1; n <= 8; n++) {
        if (p != 2) Given.due("season of " + n + " of " + p, x.season(p, n, 0), NONE);
        if (p != 2) Given.due("its last DAY", x.season(p, n, 9 + n), NONE);
      }
      Given.due("season of 1 of " + p, x.season(p, 1, 0), money[p]);
      Given.due("season of none of " + p, x.season(p, 0, 0), 0);
    }
    x.law(0);
    Given.due("EAT can be", x.season(0, 1, 0), 0);
    Given.due("EAT is the row", x.season(0, 1, 10), 1);
  }

  private static void seasonByLean() {
    Given.sentence("a row of n DAYS that can be (BODY not below LEAN)");
    // He can CROSS but once ahead of LEAN, and then EAT alone can be.
    WeighedSelf x = Given.of("one plain 21 22;frontier 2 9;");
    int[][] rows = {{3}, {3, 1}, {3, 1, 0}, {3, 1, 0, 0}};
    for (int[] row : rows) {
      Given.due("MONEY of " + row.length, x.season(0, row.length, 0), 9);
      for (int k = 0; k < row.length; k++) Given.due("DAY " + k + " of " + row.length, x.season(0, row.length, 10 + k), row[k]);
    }
    WeighedSelf y = Given.of("one abbot 41 43;frontier 2 9;");
    Given.due("an abbot", y.season(0, 1, 0), 18);
    Given.due("an abbot eats then", y.season(0, 2, 10) * 10 + y.season(0, 2, 11), 31);
    WeighedSelf z = Given.of("one faster 20 21;frontier 2 9;");
    Given.due("a faster crosses ever", z.season(0, 8, 0), 72);
  }

  private static void seasonByLaws() {
    Given.sentence("a row of n DAYS that can be (by LAW 1, by LAW 2)");
    for (int days = 0; days <= 14; days++) {
      WeighedSelf x = Given.of("one faster 50 60;");
      Given.rest(x, days);
      x.law(1);
      Given.due("the greatest BODY of DAYS " + days, x.span(0, 1, 1), days % 7 == 0 ? 50 : 52);
      WeighedSelf y = Given.of("one plain 99 60;");
      for (int i = 0; i < days; i++) {
        y.day(0, 0);
        y.body(0, 99);
      }
      y.body(0, 20);
      y.law(1);
      Given.due("a row of 1 from DAY " + days, y.season(0, 1, 0), days % 7 == 0 ? NONE : 0);
      boolean two = days % 7 != 0;
      Given.due("a row of 2 from DAY " + days, y.season(0, 2, 0), two ? 0 : NONE);
      Given.due("its DAY 1", y.season(0, 2, 11), two ? 0 : NONE);
      Given.due("a row of 8 from DAY " + days, y.season(0, 8, 0), two ? 0 : NONE);
    }
    for (int law = 0; law <= 2; law++) {
      WeighedSelf x = Given.of("law " + law + ";one faster 20 26;frontier 2 1;");
      Given.due("ROOM by LAW " + law, x.season(0, 1, 0), law == 2 ? 5 : 6);
    }
  }

  private static void plansByHisDays() {
    Given.sentence("LAW 1: his DAYS ahead of it, in a SEASON and in a span, too");
    for (int days = 0; days <= 21; days++) {
      WeighedSelf x = Given.of("one faster 50 60;frontier 2 1;");
      Given.rest(x, days);
      x.law(1);
      int meals = 0;
      for (int n = 1; n <= 6; n++) {
        meals += (days + n - 1) % 7 == 0 ? 0 : 1;
        Given.due("the greatest behind " + n + " from DAY " + days, x.span(0, n, 1), 50 + 2 * meals);
        Given.due("the fewest goods behind " + n + " from DAY " + days, x.goods(0, 0, n, 70, 0), 20 - 2 * meals);
      }
    }
    // From 21 REST and CROSS make it 20, where EAT alone can be: none of them on a DAY ahead of one that 7 divides.
    for (int days = 1; days <= 14; days++) {
      WeighedSelf x = at21(days, "");
      int row = x.season(0, 2, 10) * 10 + x.season(0, 2, 11);
      Given.due("the first row from DAY " + days, row, days % 7 == 6 ? 10 : 1);
      WeighedSelf y = at21(days, "frontier 2 9;");
      int crossing = y.season(0, 2, 10) * 10 + y.season(0, 2, 11);
      Given.due("the row that earns most from DAY " + days, crossing, days % 7 == 6 ? 13 : 31);
      Given.due("MONEY of it", y.season(0, 2, 0), days % 7 == 6 ? 144 : 180);
    }
  }

  /** A plain ONE of so many DAYS, by LAW 1 then, whose BODY is 21 and LIMIT 41. */
  private static WeighedSelf at21(int days, String more) {
    WeighedSelf x = Given.of("one plain 99 41;" + more);
    for (int i = 0; i < days; i++) {
      x.day(0, 0);
      x.body(0, 99);
    }
    x.law(1);
    x.body(0, 21);
    return x;
  }

  private static void seasonOfTheFirstRow() {
    Given.sentence("of several rows the first by DAYS (REST, EAT, WALK, CROSS 0, 1 ..)");
    WeighedSelf x = Given.of("one plain 40 0;frontier 2 1;");
    for (int k = 0; k < 8; k++) Given.due("REST, DAY " + k, x.season(0, 8, 10 + k), 0);
    x.body(0, 20);
    Given.due("EAT", x.season(0, 1, 10), 1);
    WeighedSelf y = Given.of("one plain 40 50;frontier 2 1;frontier 2 1;frontier 2 1;");
    Given.due("the first FRONTIER", y.season(0, 1, 10), 3);
    y.price(1, 2);
    Given.due("the dearer FRONTIER", y.season(0, 1, 10), 4);
    y.price(2, 2);
    Given.due("the first of the dearer", y.season(0, 1, 10), 4);
    y.err(1, 3);
    Given.due("the one with more ROOM", y.season(0, 1, 10), 5);
    WeighedSelf z = Given.of("one plain 40 40;frontier 2 1;");
    // REST, then with 1; or with 0, then with 1: he rests first.
    Given.due("MONEY", z.season(0, 2, 0), 2);
    Given.due("WALK gives most", z.season(0, 2, 10) * 10 + z.season(0, 2, 11), 23);
    WeighedSelf w = Given.of("one walker 40 40;frontier 2 1;");
    Given.due("MONEY of a walker", w.season(0, 2, 0), 1);
    Given.due("REST is ahead of WALK and CROSS", w.season(0, 2, 10) * 10 + w.season(0, 2, 11), 3);
  }

  private static void seasonPastThousandAnd9999() {
    Given.sentence("a SEASON asks what can be, not what is FULL");
    WeighedSelf x = Given.of("one faster 20 199;frontier 2 9;");
    Given.rest(x, 999);
    Given.due("season", x.season(0, 8, 0), 8 * 891);
    Given.due("best", x.best(8, 1), 8 * 891);
    Given.due("span", x.span(0, 6, 2), 7);
  }

  private static void bestOfNobody() {
    Given.sentence("best: NONE: nobody has a row. BAD");
    WeighedSelf none = new WeighedSelf(), stuck = Given.of("law 1;one plain 20 199;one abbot 40 199;frontier 2 1;");
    for (int n = -1; n <= 9; n++) {
      boolean can = n >= 0 && n <= 8;
      for (int what = -1; what <= 2; what++) {
        boolean asked = what == 0 || what == 1;
        Given.due("best(" + n + ", " + what + ") of nobody", none.best(n, what), can && asked ? NONE : BAD);
        Given.due("best(" + n + ", " + what + ") of such", stuck.best(n, what), can && asked ? n == 0 ? 0 : NONE : BAD);
      }
    }
    WeighedSelf last = Given.of("law 1;one plain 20 199;one plain 20 9;one plain 20 9;one plain 21 9;");
    Given.due("who has a row alone", last.best(1, 0), 3);
    Given.due("MONEY 0", last.best(1, 1), 0);
    Given.due("a row of no DAYS", last.best(0, 0), 0);
  }

  private static void bestOfSeveral() {
    Given.sentence("Who earns most, of several the first");
    for (int first = 0; first < 4; first++) {
      StringBuilder text = new StringBuilder("frontier 2 1;");
      for (int p = 0; p < 4; p++) text.append("one plain 40 ").append(p < first ? 41 : 42).append(';');
      WeighedSelf x = Given.of(text.toString());
      Given.due("who", x.best(1, 0), first);
      Given.due("how much", x.best(1, 1), 2);
      x.book(3, 43);
      Given.due("the last", x.best(1, 0), 3);
      Given.due("how much", x.best(1, 1), 3);
    }
  }

  private static void shareByRoom() {
    Given.sentence("SHARES: LOADS of each no more than his ROOM");
    for (int load = 1; load <= 30; load++) {
      for (int room = load - 1; room <= load + 1; room++) {
        WeighedSelf x = Given.of("one plain 50 " + (50 + room) + ";frontier 2 1;load " + load + ";");
        Given.due("LOAD " + load + ", ROOM " + room, x.share(0, 0), load <= room ? load : 0);
        Given.due("who has it", x.share(0, 10), load <= room ? 0 : NONE);
      }
    }
    WeighedSelf x = Given.of("law 2;one plain 50 199;one plain 20 199;one plain 50 49;frontier 2 1;load 6 3 2 1;");
    Given.due("5 by LAW 2", x.share(0, 0), 5);
    int[] who = {NONE, 0, 0, NONE};
    for (int i = 0; i < 4; i++) Given.due("who has LOAD " + i, x.share(0, 10 + i), who[i]);
    x.body(0, 20);
    Given.due("nobody has ROOM", x.share(0, 0), 0);
    for (int i = 0; i < 4; i++) Given.due("who has LOAD " + i, x.share(0, 10 + i), NONE);
    WeighedSelf y = Given.of("one plain 50 199;frontier 2 1;load 30 30 30 9;");
    Given.due("99 at most", y.share(0, 0), 99);
    y.drop(3);
    y.add(10);
    Given.due("not 100", y.share(0, 0), 90);
  }

  private static void shareOfLoads() {
    Given.sentence("share: 10 and i: who has LOAD i. BAD; NONE (10 and i): nobody");
    WeighedSelf x = Given.of("one plain 50 199;frontier 2 1;");
    for (int loads = 0; loads <= 5; loads++) {
      Given.due("ounces of " + loads, x.share(0, 0), loads);
      for (int what = -1; what <= 16; what++) {
        if (what != 0) Given.due("share(0, " + what + ") of " + loads, x.share(0, what), what >= 10 && what < 10 + loads ? 0 : BAD);
      }
      x.add(1);
    }
    for (int what : new int[] {MIN, MIN + 10, MAX, 266, 65546}) Given.due("share(0, " + what + ")", x.share(0, what), BAD);
    for (int f : new int[] {-1, 1, MIN, MAX}) Given.due("share(" + f + ", 0)", x.share(f, 0), BAD);
    WeighedSelf y = Given.of("frontier 2 1;load 1 1 1 1 1;");
    Given.due("nobody is there", y.share(0, 0), 0);
    for (int i = 0; i < 5; i++) Given.due("nobody is there", y.share(0, 10 + i), NONE);
    Given.due("BAD is first", y.share(0, 15), BAD);
  }

  private static void shareOfTheFirst() {
    Given.sentence("of several the first by LOADS (nobody ahead of ONES)");
    WeighedSelf x = Given.of("one plain 50 60;one plain 50 60;frontier 2 1;load 10 10 10 10 10;");
    int[] who = {NONE, NONE, NONE, 0, 1};
    Given.due("ounces", x.share(0, 0), 20);
    for (int i = 0; i < 5; i++) Given.due("who has LOAD " + i, x.share(0, 10 + i), who[i]);
    WeighedSelf y = Given.of("one plain 50 51;one plain 50 52;one plain 50 53;one plain 50 54;frontier 2 1;load 4 3 2 1;");
    int[] with = {3, 2, 1, 0};
    Given.due("all of it", y.share(0, 0), 10);
    for (int i = 0; i < 4; i++) Given.due("who has LOAD " + i, y.share(0, 10 + i), with[i]);
  }

  private static void spanAtLeanAnd99() {
    Given.sentence("BODY behind n DAYS of REST, EAT, WALK: the least, the greatest, how many it can be");
    int[][] more = {{-1, 2, -2}, {-1, 3, -2}, {0, 2, -2}, {-1, 2, -2}, {-1, 2, -1}};
    for (int kind = 0; kind < 5; kind++) {
      for (int body = Given.lean(kind); body <= 99; body++) {
        int least = 1000, greatest = -1, many = 0;
        for (int then = Given.lean(kind); then <= 99; then++) {
          boolean can = then == body + more[kind][0] || then == body + more[kind][1] || then == body + more[kind][2];
          least = can ? Math.min(least, then) : least;
          greatest = can ? then : greatest;
          many += can ? 1 : 0;
        }
        WeighedSelf x = Given.of("one " + Given.KINDS[kind] + " " + body + " 9;");
        String whom = " of KIND " + kind + ", BODY " + body;
        Given.due("the least" + whom, x.span(0, 1, 0), least);
        Given.due("the greatest" + whom, x.span(0, 1, 1), greatest);
        Given.due("how many" + whom, x.span(0, 1, 2), many);
        Given.due("none yet" + whom, x.span(0, 0, 0) * 1000 + x.span(0, 0, 1) * 10 + x.span(0, 0, 2), body * 1010 + 1);
      }
    }
  }

  private static void spanOf0To6Days() {
    Given.sentence("behind n DAYS (0 to 6). BAD");
    WeighedSelf x = Given.of("one plain 50 9;one abbot 50 9;one faster 50 9;one walker 50 9;");
    int[] rest = {2, 2, 2, 1}, meal = {2, 3, 2, 2};
    for (int n = -2; n <= 8; n++) {
      boolean can = n >= 0 && n <= 6;
      for (int p = 0; p < 4; p++) {
        Given.due("the least of " + p + " behind " + n, x.span(p, n, 0), can ? 50 - n * rest[p] < (p == 1 ? 40 : 20) ? 40 : 50 - n * rest[p] : BAD);
        Given.due("the greatest of " + p + " behind " + n, x.span(p, n, 1), can ? 50 + n * meal[p] : BAD);
      }
    }
    for (int what = -2; what <= 4; what++) Given.due("span(0, 0, " + what + ")", x.span(0, 0, what), what < 0 || what > 2 ? BAD : what < 2 ? 50 : 1);
    for (int n : new int[] {MIN, MAX, 256, 65536}) Given.due("span(0, " + n + ", 0)", x.span(0, n, 0), BAD);
  }

  private static void spanOfNoRow() {
    Given.sentence("span: NONE (0, 1): no row can be");
    WeighedSelf x = Given.of("law 1;one plain 20 9;one abbot 40 9;one walker 20 9;one plain 21 9;");
    for (int n = 0; n <= 6; n++) {
      for (int p = 0; p < 3; p++) {
        int body = p == 1 ? 40 : 20;
        Given.due("the least of " + p + " behind " + n, x.span(p, n, 0), n == 0 ? body : NONE);
        Given.due("the greatest of " + p + " behind " + n, x.span(p, n, 1), n == 0 ? body : NONE);
        Given.due("how many of " + p + " behind " + n, x.span(p, n, 2), n == 0 ? 1 : 0);
      }
    }
    Given.due("REST alone, then EAT alone", x.span(3, 2, 0) * 100 + x.span(3, 2, 1), 2222);
  }

  private static void goodsFewestAndMost() {
    Given.sentence("Goods with which a ONE can make a FRONTIER show s (0 to 999): the fewest, the most. BAD; NONE: by none");
    for (int error = 0; error <= 4; error++) {
      WeighedSelf x = Given.of("one plain 50 0;frontier " + error + " 1;");
      for (int s = 46 + error; s <= 150 + error; s++) {
        int goods = s + 2 - error - 50;
        boolean can = goods >= 0 && goods <= 99;
        Given.due("the fewest for " + s, x.goods(0, 0, 0, s, 0), can ? goods : NONE);
        Given.due("the most for " + s, x.goods(0, 0, 0, s, 1), can ? goods : NONE);
      }
      for (int s : new int[] {0, 1, 999}) Given.due("goods for " + s, x.goods(0, 0, 0, s, 0), NONE);
      for (int s : new int[] {-1, 1000, MIN, MAX}) Given.due("goods for " + s, x.goods(0, 0, 0, s, 0), BAD);
    }
    WeighedSelf x = Given.of("one plain 50 0;frontier 2 1;");
    for (int n = -1; n <= 7; n++) {
      boolean can = n >= 0 && n <= 6;
      Given.due("the fewest behind " + n, x.goods(0, 0, n, 100, 0), can ? 50 - 2 * n : BAD);
      Given.due("the most behind " + n, x.goods(0, 0, n, 100, 1), can ? 50 + 2 * n : BAD);
      Given.due("the most of up to 99 behind " + n, x.goods(0, 0, n, 149, 1), !can ? BAD : n == 1 ? 97 : 99);
      Given.due("the fewest of 0 and more behind " + n, x.goods(0, 0, n, 50, 0), can ? 50 - nearest50(n) : BAD);
    }
    for (int what = -1; what <= 2; what++) Given.due("what " + what, x.goods(0, 0, 0, 60, what), what == 0 || what == 1 ? 10 : BAD);
    WeighedSelf y = Given.of("one plain 99 0;frontier 2 1;");
    Given.due("99 and 99", y.goods(0, 0, 0, 198, 1), 99);
    Given.due("99 and 100", y.goods(0, 0, 0, 199, 1), NONE);
    Given.due("less than he is", y.goods(0, 0, 0, 98, 0), NONE);
    Given.due("he can be less by then", y.goods(0, 0, 1, 98, 0), 0);
  }

  /** The greatest BODY that is no more than 50 behind n DAYS from 50 on. */
  private static int nearest50(int n) {
    int nearest = 0;
    for (int rest = 0; rest <= n; rest++) {
      for (int eat = 0; rest + eat <= n; eat++) {
        int body = 50 - rest + 2 * eat - 2 * (n - rest - eat);
        if (body <= 50) nearest = Math.max(nearest, body);
      }
    }
    return nearest;
  }

  private static void goodsWhateverLimitAndLaw() {
    Given.sentence("whatever LIMIT and LAW are");
    for (int law = 0; law <= 2; law++) {
      for (int book : new int[] {0, 50, 199}) {
        WeighedSelf x = Given.of("law " + law + ";one plain 50 " + book + ";one plain 20 " + book + ";frontier 2 1;");
        Given.due("no goods", x.goods(0, 0, 0, 50, 1), 0);
        Given.due("99", x.goods(0, 0, 0, 149, 0), 99);
        Given.due("6", x.goods(0, 0, 0, 56, 0), 6);
        Given.due("at LEAN", x.goods(1, 0, 0, 26, 0), 6);
      }
    }
    WeighedSelf x = Given.of("law 1;one plain 20 99;frontier 2 1;");
    Given.due("no such DAY can be", x.goods(0, 0, 1, 30, 0), NONE);
    Given.due("no such DAY is asked for", x.goods(0, 0, 0, 30, 0), 10);
  }

  private static void seenAre4() {
    Given.sentence("SEEN (4): how many are. BAD; FULL. SEEN are the first n alone");
    WeighedSelf x = Given.of("one plain 50 60;frontier 2 1;");
    int[] shown = {0, 999, 500, 1};
    for (int i = 0; i < 4; i++) {
      Given.due("forget(" + (i + 1) + ")", x.forget(i + 1), BAD);
      Given.due("see", x.see(0, shown[i]), i + 1);
      Given.due("count(0)", x.count(0), i + 1);
    }
    Given.due("a 5th", x.see(0, 0), FULL);
    Given.due("BAD is first", x.see(0, 1000), BAD);
    Given.due("BAD is first", x.see(1, 0), BAD);
    Given.due("count(0)", x.count(0), 4);
    Given.due("forget(5)", x.forget(5), BAD);
    Given.due("forget(4)", x.forget(4), 4);
    Given.due("forget(3)", x.forget(3), 4);
    Given.due("a 4th again", x.see(0, 7), 4);
    Given.due("forget(-1)", x.forget(-1), BAD);
    Given.due("forget(0)", x.forget(0), 4);
    Given.due("nothing is SEEN", x.forget(0), 0);
    Given.due("one row of none", x.whose(0), 1);
    Given.due("whose(10)", x.whose(10), BAD);
    Given.due("whose(20)", x.whose(20), BAD);
  }

  private static void seenOfAnotherOne() {
    Given.sentence("WEIGHINGS FIT: each is of another ONE: how many rows, whose in the first, whose by all");
    int[][] rows = {{1, 0, 0, 0, 0}, {1, 1, 0, 0, 0}, {1, 2, 2, 0, 0}, {1, 3, 6, 6, 0}, {1, 4, 12, 24, 24}};
    for (int people = 0; people <= 4; people++) {
      WeighedSelf x = Given.of("frontier 2 1;" + "one plain 50 60;".repeat(people));
      for (int seen = 0; seen <= 4; seen++) {
        Given.due(seen + " SEEN, " + people + " there", x.whose(0), rows[people][seen]);
        for (int k = 0; k <= 4; k++) {
          int first = k >= seen ? BAD : seen > people ? NONE : k, byAll = people == 1 && first == 0 ? 0 : k >= seen ? BAD : NONE;
          Given.due("whose(10 + " + k + ")", x.whose(10 + k), first);
          Given.due("whose(20 + " + k + ")", x.whose(20 + k), byAll);
        }
        x.see(0, 55);
      }
    }
  }

  private static void seenByBounds() {
    Given.sentence("WEIGHINGS FIT: who could CROSS so with some goods (as all is now, by itself)");
    for (int law = 0; law <= 2; law++) {
      for (int s = 45; s <= 64; s++) {
        WeighedSelf x = Given.of("law " + law + ";one plain 50 60;one plain 20 199;frontier 2 1;");
        x.see(0, s);
        boolean fits = s >= 50 && s <= (law == 2 ? 55 : 60);
        Given.due(s + " SHOWN by LAW " + law, x.whose(20), fits ? 0 : NONE);
        Given.due("rows", x.whose(0), fits ? 1 : 0);
        x.book(0, s - 1);
        Given.due("more than LIMIT", x.whose(0), 0);
      }
    }
    WeighedSelf x = Given.of("one plain 50 199;frontier 2 1;");
    int[] shown = {149, 150, 49, 999};
    for (int i = 0; i < 4; i++) {
      x.see(0, shown[i]);
      Given.due(shown[i] + " SHOWN", x.whose(0), i == 0 ? 1 : 0);
      x.forget(0);
    }
    WeighedSelf twins = Given.of("one twin 50 60;one twin 50 60;frontier 2 1;");
    twins.see(0, 60);
    twins.see(0, 60);
    Given.due("each by itself: one's BOOK is as it is now", twins.whose(0), 2);
  }

  private static void triedAre6() {
    Given.sentence("TRIED (6): a weight (0 to 199) showed s (0 to 999): how many are. BAD; FULL. TRIED are the first n alone");
    WeighedSelf x = Given.of("frontier 2 1;");
    int[][] tried = {{0, 0}, {199, 999}, {0, 999}, {199, 0}, {198, 998}, {1, 1}};
    for (int i = 0; i < 6; i++) {
      Given.due("clear(" + (i + 1) + ")", x.clear(i + 1), BAD);
      Given.due("probe", x.probe(0, tried[i][0], tried[i][1]), i + 1);
      Given.due("count(1)", x.count(1), i + 1);
    }
    Given.due("a 7th", x.probe(0, 0, 0), FULL);
    Given.due("BAD is first", x.probe(0, 200, 0), BAD);
    Given.due("BAD is first", x.probe(0, 0, 1000), BAD);
    Given.due("BAD is first", x.probe(1, 0, 0), BAD);
    Given.due("count(1)", x.count(1), 6);
    Given.due("clear(7)", x.clear(7), BAD);
    Given.due("clear(6)", x.clear(6), 6);
    Given.due("clear(5)", x.clear(5), 6);
    Given.due("a 6th again", x.probe(0, 0, 0), 6);
    Given.due("clear(-1)", x.clear(-1), BAD);
    Given.due("clear(0)", x.clear(0), 6);
    Given.due("nothing is TRIED", x.clear(0), 0);
    Given.due("every ERROR", x.errs(0), 31);
  }

  private static void errorsTried() {
    Given.sentence("ERRORS (bits, 0 to 4) that a FRONTIER can have by all that was TRIED there. BAD");
    for (int w : new int[] {0, 1, 2, 3, 50, 198, 199}) {
      for (int s = Math.max(0, w - 5); s <= w + 5; s++) {
        WeighedSelf x = Given.of("frontier 2 1;frontier 2 1;frontier 2 1;");
        x.probe(1, w, s);
        int error = s - w + 2;
        Given.due(w + " showed " + s, x.errs(1), error >= 0 && error <= 4 ? 1 << error : 0);
        Given.due("not there", x.errs(0) + x.errs(2), 62);
        x.err(1, 0);
        Given.due("whatever ERROR is", x.errs(1), error >= 0 && error <= 4 ? 1 << error : 0);
        x.probe(1, w, s);
        Given.due("the same again", x.errs(1), error >= 0 && error <= 4 ? 1 << error : 0);
        x.probe(1, w, s + 1);
        Given.due("by all", x.errs(1), 0);
      }
    }
    WeighedSelf x = Given.of("frontier 2 1;");
    for (int[] far : new int[][] {{0, 32}, {0, 34}, {199, 231}, {0, 999}, {199, 0}, {0, 62}}) {
      x.probe(0, far[0], far[1]);
      Given.due(far[0] + " showed " + far[1], x.errs(0), 0);
      x.clear(0);
    }
    for (int f : new int[] {-1, 1, MIN, MAX}) Given.due("errs(" + f + ")", x.errs(f), BAD);
    Given.due("errs(0) of a new object", new WeighedSelf().errs(0), BAD);
  }

  private static void driftOf1To60Days() {
    Given.sentence("DRIFTING, by itself, n DAYS (1 to 60): BODY then (what 0), EATEN then (1). BAD");
    WeighedSelf x = Given.of("one faster 60 9;");
    for (int n : new int[] {-1, 0, 61, 62, 256, MIN, MAX}) Given.due("drift of " + n, x.drift(5, 0, n, 0), BAD);
    for (int n = 1; n <= 60; n++) {
      int[] due = drifted(5, 2, 60, n, 0, 0);
      Given.due("BODY behind " + n, x.drift(5, 0, n, 0), due[0]);
      Given.due("EATEN behind " + n, x.drift(5, 0, n, 1), due[1]);
    }
    for (int what : new int[] {-1, 2, MIN, MAX}) Given.due("what " + what, x.drift(5, 0, 1, what), BAD);
    Given.due("by itself", x.one(0, 1) * 100 + x.one(0, 3) * 10 + x.one(0, 6), 6000);
  }

  /** BODY and EATEN behind n DAYS of DRIFTING, the seed without any wrap-around but the one of 32 bits. */
  private static int[] drifted(int from, int kind, int body, int n, int law, int days) {
    int[][] more = {{-1, 2, -2}, {-1, 3, -2}, {0, 2, -2}, {-1, 2, -2}, {-1, 2, -1}};
    BigInteger seed = BigInteger.valueOf(from);
    int eaten = 0;
    for (int i = 0; i < n; i++) {
      seed = seed.multiply(BigInteger.valueOf(1103515245)).add(BigInteger.valueOf(12345)).mod(BigInteger.ONE.shiftLeft(32));
      int what = seed.shiftRight(16).mod(BigInteger.valueOf(32768)).intValue() % 3;
      int then = body + more[kind][what];
      boolean can = then >= Given.lean(kind) && then <= 99 && !(what == 1 && law == 1 && (days + i) % 7 == 0);
      body = can ? then : body;
      eaten += can && what == 1 ? more[kind][1] : 0;
    }
    return new int[] {body, eaten};
  }

  private static void driftByAnySeed() {
    Given.sentence("the seed becomes seed times 1103515245 and 12345; bits 16 to 30 of it modulo 3");
    int[] seeds = {0, 1, -1, 2, -2, 7, 12345, 65535, 65536, 32767, 32768, MIN, MIN + 1, MAX, MAX - 1, 1 << 30, -(1 << 30), 0x55555555};
    WeighedSelf x = Given.of("one plain 60 9;one abbot 60 9;one faster 60 9;one walker 60 9;");
    int[] kinds = {0, 1, 2, 4};
    for (int seed : seeds) {
      for (int p = 0; p < 4; p++) {
        for (int n : new int[] {1, 2, 60}) {
          int[] due = drifted(seed, kinds[p], 60, n, 0, 0);
          Given.due("BODY of " + p + " by " + seed + " behind " + n, x.drift(seed, p, n, 0), due[0]);
          if (n == 60) Given.due("EATEN of " + p + " by " + seed, x.drift(seed, p, n, 1), due[1]);
        }
      }
    }
  }

  private static void driftAtBounds() {
    Given.sentence("REST, EAT, WALK, if it can be, else nothing (the DAY is over, too)");
    for (int kind = 0; kind < 5; kind++) {
      for (int body : new int[] {Given.lean(kind), Given.lean(kind) + 1, 97, 98, 99}) {
        for (int law = 0; law <= 2; law++) {
          WeighedSelf x = Given.of("law " + law + ";one " + Given.KINDS[kind] + " " + body + " 9;");
          for (int n : new int[] {1, 3, 7, 8, 9, 15, 60}) {
            for (int seed = 40; seed < 50; seed++) {
              int[] due = drifted(seed, kind, body, n, law, 0);
              String call = "KIND " + kind + ", BODY " + body + ", LAW " + law + ", seed " + seed + ", DAYS " + n;
              Given.due("BODY of " + call, x.drift(seed, 0, n, 0), due[0]);
              Given.due("EATEN of " + call, x.drift(seed, 0, n, 1), due[1]);
            }
          }
        }
      }
    }
    WeighedSelf x = Given.of("one faster 50 9;");
    Given.rest(x, 999);
    x.law(1);
    for (int n : new int[] {1, 2, 8, 60}) Given.due("behind his 999 DAYS", x.drift(3, 0, n, 0), drifted(3, 2, 50, n, 1, 999)[0]);
    WeighedSelf twins = Given.of("one twin 50 9;one twin 60 9;");
    twins.day(0, 1);
    Given.due("EATEN of twins together", twins.drift(9, 1, 60, 1), 2 + drifted(9, 3, 60, 60, 0, 0)[1]);
    Given.due("EATEN is as it was", twins.one(1, 3), 2);
  }

  private static void firstThatFits() {
    Given.sentence("the first that fits: BAD ahead of NONE");
    WeighedSelf x = Given.of("law 1;one plain 20 199;frontier 2 1;load 9;");
    x.see(0, 999);
    Given.due("season", x.season(0, 1, 11), BAD);
    Given.due("season", x.season(0, 9, 0), BAD);
    Given.due("best", x.best(9, 0), BAD);
    Given.due("best", x.best(1, 2), BAD);
    Given.due("share", x.share(0, 11), BAD);
    Given.due("span", x.span(0, 1, 3), BAD);
    Given.due("span", x.span(0, 7, 0), BAD);
    Given.due("goods", x.goods(0, 0, 1, 1000, 0), BAD);
    Given.due("goods", x.goods(0, 0, 1, 40, 2), BAD);
    Given.due("whose", x.whose(11), BAD);
    Given.due("whose", x.whose(21), BAD);
    int[] none = {x.season(0, 1, 10), x.best(1, 0), x.best(1, 1), x.share(0, 10), x.span(0, 1, 1), x.goods(0, 0, 1, 40, 1), x.whose(10), x.whose(20)};
    for (int answer : none) Given.due("none", answer, NONE);
  }
}
