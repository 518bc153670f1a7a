import java.util.List;

/**
 * For every number that a call takes: the last that is allowed and the first that is not, on both sides. What is
 * refused changes nothing: behind it an object is, all in all, as one that was made alike and was not asked.
 */
public final class RefusedTest {
  private static final int BAD = Given.BAD, STATE = Given.STATE, FULL = Given.FULL, NONE = Given.NONE;
  private static final int MIN = Integer.MIN_VALUE, MAX = Integer.MAX_VALUE;

  private interface Call { int on(WeighedSelf x); }

  private interface CallWith { int on(WeighedSelf x, int v); }

  /** An object that can be made again and again, and all that can be learned of it. */
  private enum Scene {
    NEW, WHOLE, SPARSE, WORN;

    private final List<String> look = Look.at(made());

    WeighedSelf made() {
      WeighedSelf x = new WeighedSelf();
      if (name().equals("WHOLE")) whole(x);
      if (name().equals("SPARSE")) sparse(x);
      if (name().equals("WORN")) worn(x);
      return x;
    }
  }

  /** All that can be full is full: people, frontiers, loads, SEEN, TRIED, images, the tape. */
  private static void whole(WeighedSelf x) {
    Given.told(x, "law 2;one plain 30 40;one abbot 60 75;one twin 25 50;one twin 26 9;"
        + "frontier 2 3;frontier 0 2;frontier 4 9;load 5 3 8 1 30;");
    x.keep(0);
    x.cross(0, 0, 4);
    x.day(1, 1);
    x.keep(1);
    x.day(2, 1);
    int[][] seen = {{0, 33}, {1, 61}, {2, 34}, {0, 26}};
    for (int[] s : seen) x.see(s[0], s[1]);
    int[][] tried = {{0, 50, 50}, {0, 199, 199}, {1, 40, 38}, {1, 2, 0}, {2, 10, 12}, {2, 197, 199}};
    for (int[] t : tried) x.probe(t[0], t[1], t[2]);
    int[][] cells = {{1, 1, 2, 0}, {0, 1, 3, 0, 2, 0}, {1, 0}};
    for (int k = 0; k < 3; k++) {
      x.sheet(k, k, cells[k].length);
      for (int i = 0; i < cells[k].length; i++) x.lay(k, i, cells[k][i]);
    }
    x.read(0, 1, 0, 1);
    Given.told(x, "law 9;");
    Given.feed(x, "one walker 21 33;frontier 1 1;load 9;" + Given.blanks(283));
  }

  /** Some are there and some can do nothing: one at LEAN and one at 99 by LAW 1 on DAY 0, one at LEAN whose LIMIT is 0. */
  private static void sparse(WeighedSelf x) {
    Given.told(x, "one faster 22 9;one plain 20 199;one walker 99 97;frontier 2 9;load 5 3;");
    x.day(0, 2);
    x.law(1);
    x.see(0, 99);
    x.probe(0, 50, 50);
    x.probe(0, 50, 51);
    x.keep(1);
    x.sheet(2, 1, 3);
    x.lay(2, 1, 1);
    x.read(3, 0, 0, 1);
    Given.told(x, "law");
    Given.feed(x, "law 2;");
  }

  /** ONE 0 has seen his 999 days and has 9801. */
  private static void worn(WeighedSelf x) {
    Given.told(x, "one faster 20 199;one plain 40 60;frontier 2 9;load 7;");
    for (int i = 0; i < 11; i++) {
      x.cross(0, 0, 99);
      x.book(0, 199);
    }
    Given.rest(x, 988);
  }

  public static void main(String[] args) {
    scenesAreAsMeant();
    asked();
    changed();
    lived();
    planned();
    noted();
    kept();
    nobodyThere();
    full();
    canNotBe();
    faultsOfSheets();
    faultsOfTexts();
    seenAlone();
    Given.finish("what is refused changes nothing");
  }

  private static void refused(Scene scene, String name, int want, Call call) {
    same(scene, name, want, call);
    if (want >= 0) Given.fail(name + " is no refusal");
  }

  private static void same(Scene scene, String name, int want, Call call) {
    WeighedSelf x = scene.made();
    Given.due(scene + ": " + name, call.on(x), want);
    List<String> look = Look.at(x);
    for (int i = 0; i < look.size(); i++) {
      if (!look.get(i).equals(scene.look.get(i))) {
        Given.fail(scene + ": " + name + " changed " + scene.look.get(i) + " to " + look.get(i));
        return;
      }
    }
  }

  /** low and high are not BAD; what is less and what is more is, too when its lowest bits alone would be allowed. */
  private static void bounds(Scene scene, String name, int low, int high, CallWith call) {
    for (int v : new int[] {low, high}) {
      if (call.on(scene.made(), v) == BAD) Given.fail(scene + ": " + name + " of " + v + " is BAD");
    }
    outside(scene, name, low, high, call);
  }

  private static void outside(Scene scene, String name, int low, int high, CallWith call) {
    for (int v : new int[] {low - 1, high + 1, high - 256, low + 256, low + 65536, high - 65536, MIN, MIN + low, MAX}) {
      if (v < low || v > high) refused(scene, name + " of " + v, BAD, x -> call.on(x, v));
    }
  }

  private static void scenesAreAsMeant() {
    Given.sentence("the scenes");
    WeighedSelf x = Scene.WHOLE.made();
    int[] counts = {4, 6, 2, 320, 4, 47};
    for (int what = 0; what < 6; what++) Given.due("count(" + what + ")", x.count(what), counts[what]);
    Given.due("fault()", x.fault(), 3);
    Given.due("torn()", x.torn(), 3);
    Given.due("whose(0)", x.whose(0), 1);
    for (int k = 0; k < 4; k++) Given.due("whose(20 + " + k + ")", x.whose(20 + k), k);
    for (int f = 0; f < 3; f++) Given.due("errs(" + f + ")", x.errs(f), new int[] {4, 1, 16}[f]);
    int[] whole = {2, 3, 1};
    for (int k = 0; k < 3; k++) Given.due("read(" + k + ")", x.read(k, k, 0, 20), whole[k]);
    Given.due("text()", x.text(), 3);
    WeighedSelf y = Scene.WORN.made();
    Given.due("DAYS", y.one(0, 6), 999);
    Given.due("MONEY", y.one(0, 5), 9801);
    WeighedSelf z = Scene.SPARSE.made();
    int[] may = {3, 0, 5};
    for (int p = 0; p < 3; p++) Given.due("may(" + p + ")", z.may(p), may[p]);
  }

  /** Promises 3 and 6 to 9. */
  private static void asked() {
    Scene w = Scene.WHOLE, s = Scene.SPARSE;
    Given.sentence("end: BAD");
    bounds(w, "end", 0, 320, (x, v) -> x.end(v));
    bounds(s, "end", 0, 6, (x, v) -> x.end(v));
    bounds(Scene.NEW, "end", 0, 0, (x, v) -> x.end(v));
    Given.sentence("rule: BAD");
    bounds(w, "rule", 0, 3, (x, v) -> x.rule(v));
    bounds(Scene.NEW, "rule", 0, 3, (x, v) -> x.rule(v));
    Given.sentence("one: BAD");
    bounds(w, "one p", 0, 3, (x, v) -> x.one(v, 1));
    bounds(s, "one p", 0, 2, (x, v) -> x.one(v, 6));
    bounds(w, "one what", 0, 6, (x, v) -> x.one(3, v));
    Given.sentence("frontier: BAD");
    bounds(w, "frontier f", 0, 2, (x, v) -> x.frontier(v, 0));
    bounds(s, "frontier f", 0, 0, (x, v) -> x.frontier(v, 1));
    bounds(w, "frontier what", 0, 1, (x, v) -> x.frontier(2, v));
    Given.sentence("load: BAD");
    bounds(w, "load", 0, 4, (x, v) -> x.load(v));
    bounds(s, "load", 0, 1, (x, v) -> x.load(v));
  }

  /** Promises 10 to 16. */
  private static void changed() {
    Scene w = Scene.WHOLE, s = Scene.SPARSE;
    Given.sentence("law: BAD");
    bounds(w, "law", 0, 2, (x, v) -> x.law(v));
    bounds(Scene.NEW, "law", 0, 2, (x, v) -> x.law(v));
    Given.sentence("err: BAD");
    bounds(w, "err f", 0, 2, (x, v) -> x.err(v, 3));
    bounds(s, "err f", 0, 0, (x, v) -> x.err(v, 3));
    bounds(w, "err v", 0, 4, (x, v) -> x.err(2, v));
    Given.sentence("price: BAD");
    bounds(w, "price f", 0, 2, (x, v) -> x.price(v, 5));
    bounds(s, "price f", 0, 0, (x, v) -> x.price(v, 5));
    bounds(w, "price v", 1, 9, (x, v) -> x.price(2, v));
    Given.sentence("body: BAD (below LEAN, above 99)");
    bounds(w, "body p", 0, 3, (x, v) -> x.body(v, 77));
    bounds(s, "body p", 0, 2, (x, v) -> x.body(v, 77));
    int[] lean = {20, 40, 20, 20};
    for (int p = 0; p < 4; p++) {
      int q = p;
      bounds(w, "body v of " + p, lean[p], 99, (x, v) -> x.body(q, v));
      if (p < 3) bounds(s, "body v of " + p, 20, 99, (x, v) -> x.body(q, v));
    }
    Given.sentence("book: BAD");
    bounds(w, "book p", 0, 3, (x, v) -> x.book(v, 100));
    bounds(s, "book p", 0, 2, (x, v) -> x.book(v, 100));
    for (int p = 0; p < 4; p++) {
      int q = p;
      bounds(w, "book v of " + p, 0, 199, (x, v) -> x.book(q, v));
    }
    Given.sentence("add: BAD; FULL");
    bounds(w, "add", 1, 30, (x, v) -> x.add(v));
    bounds(s, "add", 1, 30, (x, v) -> x.add(v));
    bounds(Scene.NEW, "add", 1, 30, (x, v) -> x.add(v));
    Given.sentence("drop: BAD");
    bounds(w, "drop", 0, 5, (x, v) -> x.drop(v));
    bounds(s, "drop", 0, 2, (x, v) -> x.drop(v));
    bounds(Scene.NEW, "drop", 0, 0, (x, v) -> x.drop(v));
  }

  /** Promises 17 to 20. */
  private static void lived() {
    Scene w = Scene.WHOLE, s = Scene.SPARSE;
    Given.sentence("day: BAD");
    bounds(w, "day p", 0, 3, (x, v) -> x.day(v, 0));
    bounds(s, "day p", 0, 2, (x, v) -> x.day(v, 0));
    bounds(w, "day what", 0, 2, (x, v) -> x.day(0, v));
    bounds(Scene.WORN, "day what", 0, 2, (x, v) -> x.day(0, v));
    Given.sentence("cross: BAD");
    bounds(w, "cross p", 0, 3, (x, v) -> x.cross(v, 0, 0));
    bounds(s, "cross p", 0, 2, (x, v) -> x.cross(v, 0, 0));
    bounds(w, "cross f", 0, 2, (x, v) -> x.cross(0, v, 0));
    bounds(s, "cross f", 0, 0, (x, v) -> x.cross(0, v, 0));
    bounds(w, "cross goods", 0, 99, (x, v) -> x.cross(0, 0, v));
    bounds(Scene.WORN, "cross goods", 0, 99, (x, v) -> x.cross(0, 0, v));
    Given.sentence("may: BAD");
    bounds(w, "may", 0, 3, (x, v) -> x.may(v));
    bounds(s, "may", 0, 2, (x, v) -> x.may(v));
    Given.sentence("room: BAD");
    bounds(w, "room p", 0, 3, (x, v) -> x.room(v, 2));
    bounds(s, "room p", 0, 2, (x, v) -> x.room(v, 0));
    bounds(w, "room f", 0, 2, (x, v) -> x.room(3, v));
    bounds(s, "room f", 0, 0, (x, v) -> x.room(2, v));
  }

  /** Promises 21 to 25 and 32. */
  private static void planned() {
    Scene w = Scene.WHOLE, s = Scene.SPARSE;
    Given.sentence("season: BAD (also k no less than n)");
    bounds(w, "season p", 0, 3, (x, v) -> x.season(v, 2, 0));
    bounds(s, "season p", 0, 2, (x, v) -> x.season(v, 2, 11));
    bounds(w, "season n", 0, 8, (x, v) -> x.season(3, v, 0));
    for (int n = 1; n <= 8; n++) {
      int m = n;
      bounds(w, "season what of " + n + " DAYS", 10, 9 + n, (x, v) -> x.season(0, m, v));
    }
    outside(w, "season what of no DAYS", 0, 0, (x, v) -> x.season(0, 0, v));
    for (int what = 1; what < 10; what++) {
      int v = what;
      refused(w, "season what " + v, BAD, x -> x.season(0, 8, v));
    }
    refused(w, "season k of no DAYS", BAD, x -> x.season(0, 0, 10));
    Given.sentence("best: BAD");
    bounds(w, "best n", 0, 8, (x, v) -> x.best(v, 0));
    bounds(w, "best what", 0, 1, (x, v) -> x.best(3, v));
    bounds(Scene.NEW, "best n", 0, 8, (x, v) -> x.best(v, 1));
    Given.sentence("share: BAD");
    bounds(w, "share f", 0, 2, (x, v) -> x.share(v, 0));
    bounds(s, "share f", 0, 0, (x, v) -> x.share(v, 10));
    bounds(w, "share what", 10, 14, (x, v) -> x.share(1, v));
    bounds(s, "share what", 10, 11, (x, v) -> x.share(0, v));
    for (int what = 1; what < 10; what++) {
      int v = what;
      refused(w, "share what " + v, BAD, x -> x.share(0, v));
    }
    Given.sentence("span: BAD");
    bounds(w, "span p", 0, 3, (x, v) -> x.span(v, 2, 0));
    bounds(s, "span p", 0, 2, (x, v) -> x.span(v, 2, 0));
    bounds(w, "span n", 0, 6, (x, v) -> x.span(0, v, 1));
    bounds(w, "span what", 0, 2, (x, v) -> x.span(0, 3, v));
    Given.sentence("goods: BAD");
    bounds(w, "goods p", 0, 3, (x, v) -> x.goods(v, 0, 1, 70, 0));
    bounds(s, "goods p", 0, 2, (x, v) -> x.goods(v, 0, 1, 70, 0));
    bounds(w, "goods f", 0, 2, (x, v) -> x.goods(0, v, 1, 70, 0));
    bounds(s, "goods f", 0, 0, (x, v) -> x.goods(0, v, 1, 70, 0));
    bounds(w, "goods n", 0, 6, (x, v) -> x.goods(0, 0, v, 70, 0));
    bounds(w, "goods s", 0, 999, (x, v) -> x.goods(0, 0, 1, v, 0));
    bounds(w, "goods what", 0, 1, (x, v) -> x.goods(0, 0, 1, 70, v));
    Given.sentence("drift: BAD");
    bounds(w, "drift p", 0, 3, (x, v) -> x.drift(7, v, 9, 0));
    bounds(s, "drift p", 0, 2, (x, v) -> x.drift(7, v, 9, 0));
    bounds(w, "drift n", 1, 60, (x, v) -> x.drift(7, 0, v, 0));
    bounds(w, "drift what", 0, 1, (x, v) -> x.drift(7, 0, 9, v));
    Given.sentence("what is planned is not lived");
    same(w, "season", 153, x -> x.season(0, 4, 0));
    same(w, "best", 1, x -> x.best(4, 0));
    same(w, "share", 9, x -> x.share(0, 0));
    same(w, "span", 25, x -> x.span(1, 6, 2));
    same(w, "goods", 9, x -> x.goods(0, 0, 1, 40, 0));
    same(w, "drift", 22, x -> x.drift(7, 0, 60, 0));
  }

  /** Promises 26 to 31. */
  private static void noted() {
    Scene w = Scene.WHOLE, s = Scene.SPARSE, none = Scene.NEW;
    Given.sentence("see: BAD; FULL");
    bounds(w, "see f", 0, 2, (x, v) -> x.see(v, 50));
    bounds(s, "see f", 0, 0, (x, v) -> x.see(v, 50));
    bounds(w, "see s", 0, 999, (x, v) -> x.see(0, v));
    bounds(s, "see s", 0, 999, (x, v) -> x.see(0, v));
    Given.sentence("forget: BAD");
    bounds(w, "forget", 0, 4, (x, v) -> x.forget(v));
    bounds(s, "forget", 0, 1, (x, v) -> x.forget(v));
    bounds(none, "forget", 0, 0, (x, v) -> x.forget(v));
    Given.sentence("whose: BAD (k no less than SEEN)");
    for (int ten = 10; ten <= 20; ten += 10) {
      bounds(w, "whose what", ten, ten + 3, (x, v) -> x.whose(v));
      bounds(s, "whose what", ten, ten, (x, v) -> x.whose(v));
    }
    for (int what = -1; what < 30; what++) {
      int v = what;
      if (v != 0) refused(none, "whose what " + v, BAD, x -> x.whose(v));
      boolean told = v == 0 || v >= 10 && v <= 13 || v >= 20 && v <= 23;
      if (!told) refused(w, "whose what " + v, BAD, x -> x.whose(v));
    }
    Given.sentence("probe: BAD; FULL");
    bounds(w, "probe f", 0, 2, (x, v) -> x.probe(v, 50, 50));
    bounds(s, "probe f", 0, 0, (x, v) -> x.probe(v, 50, 50));
    bounds(w, "probe w", 0, 199, (x, v) -> x.probe(0, v, 50));
    bounds(s, "probe w", 0, 199, (x, v) -> x.probe(0, v, 50));
    bounds(w, "probe s", 0, 999, (x, v) -> x.probe(0, 50, v));
    bounds(s, "probe s", 0, 999, (x, v) -> x.probe(0, 50, v));
    Given.sentence("clear: BAD");
    bounds(w, "clear", 0, 6, (x, v) -> x.clear(v));
    bounds(s, "clear", 0, 2, (x, v) -> x.clear(v));
    bounds(none, "clear", 0, 0, (x, v) -> x.clear(v));
    Given.sentence("errs: BAD");
    bounds(w, "errs", 0, 2, (x, v) -> x.errs(v));
    bounds(s, "errs", 0, 0, (x, v) -> x.errs(v));
  }

  /** Promises 33 to 37 and 39. */
  private static void kept() {
    Scene w = Scene.WHOLE, none = Scene.NEW;
    Given.sentence("keep: BAD");
    bounds(w, "keep", 0, 1, (x, v) -> x.keep(v));
    bounds(none, "keep", 0, 1, (x, v) -> x.keep(v));
    Given.sentence("back: BAD");
    bounds(w, "back", 0, 1, (x, v) -> x.back(v));
    bounds(none, "back", 0, 1, (x, v) -> x.back(v));
    Given.sentence("sheet: BAD: also n above 40");
    bounds(w, "sheet k", 0, 3, (x, v) -> x.sheet(v, 0, 9));
    bounds(w, "sheet lane", 0, 2, (x, v) -> x.sheet(0, v, 9));
    for (int lane = 0; lane < 3; lane++) {
      int l = lane;
      if (w.made().sheet(2, l, 40) != 1) Given.fail("sheet of 40 in lane " + l);
      for (int n : new int[] {41, 256, 65536, MAX}) refused(w, "sheet n " + n, BAD, x -> x.sheet(2, l, n));
    }
    Given.sentence("lay: BAD: k");
    bounds(w, "lay k", 0, 3, (x, v) -> x.lay(v, 0, 1));
    bounds(none, "lay k", 0, 3, (x, v) -> x.lay(v, 0, 1));
    Given.sentence("read: BAD: k, lane, n");
    bounds(w, "read k", 0, 3, (x, v) -> x.read(v, 0, 0, 1));
    bounds(w, "read lane", 0, 2, (x, v) -> x.read(1, v, 0, 1));
    bounds(w, "read n", 0, 20, (x, v) -> x.read(1, 1, 0, v));
    bounds(none, "read n", 0, 20, (x, v) -> x.read(1, 1, 0, v));
    outside(w, "read n of no such CELL", 0, 20, (x, v) -> x.read(1, 1, MIN, v));
    Given.sentence("count: BAD");
    bounds(w, "count", 0, 5, (x, v) -> x.count(v));
    bounds(none, "count", 0, 5, (x, v) -> x.count(v));
  }

  private static void nobodyThere() {
    Given.sentence("BAD: there is no such ONE, FRONTIER, LOAD");
    Scene none = Scene.NEW;
    Call[] calls = {
      x -> x.one(0, 0), x -> x.frontier(0, 0), x -> x.load(0), x -> x.err(0, 0), x -> x.price(0, 1), x -> x.body(0, 50),
      x -> x.book(0, 0), x -> x.day(0, 0), x -> x.cross(0, 0, 0), x -> x.may(0), x -> x.room(0, 0), x -> x.season(0, 0, 0),
      x -> x.share(0, 0), x -> x.span(0, 0, 2), x -> x.goods(0, 0, 0, 0, 0), x -> x.see(0, 0), x -> x.probe(0, 0, 0),
      x -> x.errs(0), x -> x.drift(0, 0, 1, 0)};
    for (int i = 0; i < calls.length; i++) refused(none, "call " + i + " of nobody", BAD, calls[i]);
  }

  private static void full() {
    Scene w = Scene.WHOLE, worn = Scene.WORN;
    Given.sentence("FULL");
    refused(w, "feed", FULL, x -> x.feed(0x6c617720313b2020L));
    for (int v : new int[] {1, 30}) refused(w, "add " + v, FULL, x -> x.add(v));
    for (int f = 0; f < 3; f++) {
      int g = f;
      refused(w, "see at " + f, FULL, x -> x.see(g, 999));
      refused(w, "probe at " + f, FULL, x -> x.probe(g, 0, 999));
    }
    refused(worn, "his 1000th, REST", FULL, x -> x.day(0, 0));
    refused(worn, "his 1000th, EAT", FULL, x -> x.day(0, 1));
    for (int goods : new int[] {0, 22, 23, 99}) refused(worn, "his 1000th, CROSS", FULL, x -> x.cross(0, 0, goods));
    Given.sentence("FULL: MONEY would be more than 9999");
    rich(23, FULL);
    rich(99, FULL);
    rich(22, 42);
    rich(0, 20);
  }

  /** With 9801 and days to come he crosses with such goods at PRICE 9. */
  private static void rich(int goods, int want) {
    WeighedSelf x = new WeighedSelf(), y = new WeighedSelf();
    for (WeighedSelf z : new WeighedSelf[] {x, y}) {
      Given.told(z, "one faster 20 199;frontier 2 9;");
      for (int i = 0; i < 11; i++) {
        z.cross(0, 0, 99);
        z.book(0, 199);
      }
    }
    Given.due("cross with " + goods, x.cross(0, 0, goods), want);
    if (want == FULL && !Look.at(x).equals(Look.at(y))) Given.fail("cross with " + goods + " changed something");
    if (want != FULL) Given.due("MONEY", x.one(0, 5), 9801 + 9 * goods);
  }

  private static void canNotBe() {
    Scene s = Scene.SPARSE, w = Scene.WHOLE;
    Given.sentence("STATE: it can not be");
    for (int what = 0; what < 3; what++) {
      int v = what;
      refused(s, "day " + v + " at LEAN by LAW 1", STATE, x -> x.day(1, v));
    }
    refused(s, "EAT at 99", STATE, x -> x.day(2, 1));
    refused(Scene.WORN, "WALK at LEAN, ahead of FULL", STATE, x -> x.day(0, 2));
    Given.sentence("STATE: he can not");
    refused(s, "CROSS at LEAN", STATE, x -> x.cross(1, 0, 0));
    refused(s, "CROSS by LIMIT", STATE, x -> x.cross(2, 0, 0));
    refused(s, "CROSS by LIMIT", STATE, x -> x.cross(0, 0, 99));
    refused(w, "CROSS by LAW 2", STATE, x -> x.cross(1, 0, 6));
    refused(w, "CROSS by LIMIT", STATE, x -> x.cross(0, 2, 4));
    Given.sentence("back: STATE: there is none");
    refused(s, "back(0)", STATE, x -> x.back(0));
    refused(Scene.NEW, "back(0)", STATE, x -> x.back(0));
    refused(Scene.NEW, "back(1)", STATE, x -> x.back(1));
    Given.sentence("NONE");
    refused(s, "room", NONE, x -> x.room(1, 0));
    refused(s, "season", NONE, x -> x.season(1, 8, 0));
    refused(s, "season's DAY", NONE, x -> x.season(1, 8, 17));
    refused(s, "span", NONE, x -> x.span(1, 6, 0));
    refused(s, "goods", NONE, x -> x.goods(1, 0, 6, 40, 1));
    refused(s, "share", NONE, x -> x.share(0, 10));
    refused(s, "whose", NONE, x -> x.whose(10));
    refused(s, "whose by all", NONE, x -> x.whose(20));
    refused(s, "count", NONE, x -> x.count(4));
    refused(Scene.NEW, "best", NONE, x -> x.best(8, 1));
  }

  private static void faultsOfSheets() {
    Scene w = Scene.WHOLE;
    Given.sentence("sheet: -10 - 4");
    for (int n : new int[] {-1, -40, -256, MIN}) {
      for (int k = 0; k < 4; k++) {
        int l = k;
        refused(w, "sheet " + k + " n " + n, -14, x -> x.sheet(l, 1, n));
      }
    }
    Given.sentence("lay: -10 less the FAULT: NULL, INDEX");
    int[] size = {4, 6, 2};
    for (int k = 0; k < 3; k++) {
      int l = k;
      for (int i : new int[] {-1, size[k], 40, 256, MIN, MAX}) refused(w, "lay " + k + " i " + i, -12, x -> x.lay(l, i, 1));
    }
    for (int i : new int[] {-1, 0, 40, MIN, MAX}) refused(w, "lay i " + i, -11, x -> x.lay(3, i, 1));
    Given.sentence("read: -20 less i: then none went");
    refused(Scene.SPARSE, "read", -21, x -> read(x, 0, 0, 9, 0));
    refused(Scene.SPARSE, "read", -23, x -> read(x, 0, 0, 0, 1, 0, 2, 0, 2));
    refused(Scene.SPARSE, "read", -23, x -> read(x, 0, 0, 0, 1, 2, 2, 2, 1, 0, 0));
  }

  /** Days read of a sheet that is made for it, which is then as it was. */
  private static int read(WeighedSelf x, int... cells) {
    x.sheet(2, 1, cells.length);
    for (int i = 0; i < cells.length; i++) x.lay(2, i, cells[i]);
    int answer = x.read(2, 1, 0, cells.length / 2);
    x.sheet(2, 1, 3);
    x.lay(2, 1, 1);
    return answer;
  }

  private static void faultsOfTexts() {
    Given.sentence("text: -10 less the place of its FAULT: that which was told stays");
    // The tape is as it was when the text behind it has been read, and the FAULT is the same: nothing else may be changed.
    String[] texts = {"law 1;one plain 20 1;frontier 1 1;load 1;law", "one", "frontier 0 1;load 1 2;x"};
    int[] faults = {4, 2, 2}, places = {41, 3, 22};
    for (int i = 0; i < texts.length; i++) {
      WeighedSelf x = Scene.SPARSE.made();
      x.end(0);
      Given.due("text() of " + texts[i], Given.told(x, texts[i]), -10 - places[i]);
      Given.due("fault() of " + texts[i], x.fault(), faults[i]);
      Given.due("the tape is empty", x.count(3), 0);
      Given.told(x, "law");
      Given.feed(x, "law 2;");
      if (!Look.at(x).equals(Scene.SPARSE.look)) Given.fail("a text with a FAULT changed something: " + texts[i]);
    }
  }

  private static void seenAlone() {
    Given.sentence("SEEN are the first n alone; TRIED are the first n alone");
    for (int n = 0; n <= 4; n++) {
      WeighedSelf x = Scene.WHOLE.made();
      Given.due("forget(" + n + ")", x.forget(n), 4);
      for (int k = 0; k < 4; k++) Given.due("whose(10 + " + k + ") of " + n, x.whose(10 + k), k < n ? k : BAD);
    }
    for (int n = 0; n <= 6; n++) {
      WeighedSelf x = Scene.WHOLE.made();
      Given.due("clear(" + n + ")", x.clear(n), 6);
      for (int f = 0; f < 3; f++) Given.due("errs(" + f + ") of " + n, x.errs(f), n > 2 * f ? new int[] {4, 1, 16}[f] : 31);
    }
  }
}
