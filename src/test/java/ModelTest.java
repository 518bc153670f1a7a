import java.util.Random;

/** Long runs of calls by fixed seeds: the class and the model must answer alike, call by call. */
public final class ModelTest {
  private static final int RUNS = 2500;
  private static int wrong;
  private static StringBuilder told;

  private final Random random;
  private final WeighedSelf x = new WeighedSelf();
  private final Model m = new Model();
  private boolean same = true;
  private int calls;

  private ModelTest(int seed) { random = new Random(seed); }

  public static void main(String[] args) {
    for (int seed = 0; seed < RUNS && wrong < 10; seed++) {
      told = new StringBuilder();
      new ModelTest(seed).run(seed);
    }
    System.out.println(wrong == 0 ? "all runs are as the model's" : wrong + " runs are not as the model's");
    if (wrong != 0) System.exit(1);
  }

  private void due(String call, int got, int want) {
    calls++;
    told.append(call).append(" -> ").append(got).append('\n');
    if (got != want && same) {
      same = false;
      wrong++;
      System.out.println(told + "due was " + want);
    }
  }

  private void run(int seed) {
    if (random.nextInt(8) > 0) tell(goodText());
    // A turn is 120 calls at most (a text, a step, a look at all), and an object is used for 512.
    while (calls < 390 && same) {
      if (random.nextInt(40) == 0) tell(random.nextInt(3) == 0 ? goodText() : badText(goodText()));
      step();
      if (random.nextInt(20) == 0) lookAtAll();
    }
  }

  /** Mostly within bounds; now and then at or past their edges. */
  private int pick(int low, int high) {
    int r = random.nextInt(40);
    if (r == 0) return low - 1;
    if (r == 1) return high + 1;
    if (r == 2) return low;
    if (r == 3) return high;
    if (r == 4 && random.nextInt(4) == 0) return random.nextInt();
    if (r == 5 && random.nextInt(8) == 0) return random.nextBoolean() ? Integer.MIN_VALUE : Integer.MAX_VALUE;
    return low + random.nextInt(Math.max(1, high - low + 1));
  }

  private int one() { return pick(0, Math.max(0, m.now.people.size() - 1)); }

  private int frontier() { return pick(0, Math.max(0, m.now.frontiers.size() - 1)); }

  private int between(int low, int high) { return low + random.nextInt(high - low + 1); }

  private String goodText() {
    StringBuilder b = new StringBuilder();
    if (random.nextBoolean()) b.append("law ").append(random.nextInt(3)).append(";");
    for (int i = random.nextInt(5); i > 0; i--) {
      String kind = Model.KINDS.get(random.nextInt(5));
      if (random.nextInt(3) == 0) kind = "twin";
      int lean = kind.equals("abbot") ? 40 : 20;
      int body = random.nextInt(4) == 0 ? between(lean, lean + 3) : random.nextInt(6) == 0 ? between(96, 99) : between(lean, 99);
      int book = random.nextInt(3) == 0 ? between(0, 199) : Math.min(199, body + between(-5, random.nextInt(3) == 0 ? 110 : 20));
      b.append("one ").append(kind).append(' ').append(body).append(random.nextInt(9) == 0 ? "  " : " ").append(book).append(';');
    }
    for (int i = random.nextInt(4); i > 0; i--) {
      b.append("frontier ").append(between(0, 4)).append(' ').append(between(1, 9)).append(random.nextInt(5) == 0 ? " ; " : ";");
    }
    int loads = random.nextInt(6);
    if (loads > 0) {
      b.append("load");
      for (int i = 0; i < loads; i++) b.append(i == 0 && random.nextInt(5) == 0 ? "" : " ").append(between(1, random.nextBoolean() ? 8 : 30));
      b.append(';');
    }
    return b.toString();
  }

  private String badText(String good) {
    StringBuilder b = new StringBuilder(good);
    for (int i = random.nextInt(3); i >= 0; i--) {
      int at = random.nextInt(b.length() + 1);
      String[] bits = {"law 1;", "law", "one ", "one plain 30 40;", "frontier 2 2;", "load 3 3;", ";", " ", "0", "9", "z", "A", "{", "\u00e9", "\0", "abbot", "-", "/", ":", "`"};
      switch (random.nextInt(3)) {
        case 0: b.insert(at, bits[random.nextInt(bits.length)]); break;
        case 1: if (at < b.length()) b.deleteCharAt(at); break;
        default: if (random.nextInt(4) == 0) b.setLength(at); else b.append(bits[random.nextInt(bits.length)]);
      }
    }
    if (b.length() > 320) b.setLength(320);
    return b.toString();
  }

  private void tell(String text) {
    int n = text.length();
    StringBuilder b = new StringBuilder(text);
    while (b.length() % 8 != 0) b.append((char) random.nextInt(256));
    due("end(0)", x.end(0), m.end(0));
    for (int i = 0; i < b.length(); i += 8) {
      long v = 0;
      for (int j = 0; j < 8; j++) v = v << 8 | b.charAt(i + j);
      due("feed", x.feed(v), m.feed(v));
    }
    due("end(" + n + ") [" + text + "]", x.end(n), m.end(n));
    due("text()", x.text(), m.text());
    due("fault()", x.fault(), m.fault());
  }

  private void lookAtAll() {
    for (int what = -1; what < 7; what++) {
      due("rule " + what, x.rule(what), m.rule(what));
      due("count " + what, x.count(what), m.count(what));
      for (int p = -1; p < 5; p++) due("one " + p + " " + what, x.one(p, what), m.one(p, what));
    }
    due("torn()", x.torn(), m.torn());
  }

  private void step() {
    int a = one(), f = frontier(), v, n, s, k, what, i;
    switch (random.nextInt(34)) {
      case 0: v = pick(0, 2); due("law(" + v + ")", x.law(v), m.law(v)); break;
      case 1: v = pick(0, 4); due("err(" + f + "," + v + ")", x.err(f, v), m.err(f, v)); break;
      case 2: v = pick(1, 9); due("price(" + f + "," + v + ")", x.price(f, v), m.price(f, v)); break;
      case 3: v = pick(20, random.nextBoolean() ? 99 : 45); due("body(" + a + "," + v + ")", x.body(a, v), m.body(a, v)); break;
      case 4: v = pick(0, 199); due("book(" + a + "," + v + ")", x.book(a, v), m.book(a, v)); break;
      case 5: v = pick(1, 30); due("add(" + v + ")", x.add(v), m.add(v)); break;
      case 6: v = pick(0, m.now.loads.size()); if (random.nextInt(3) == 0) due("drop(" + v + ")", x.drop(v), m.drop(v)); break;
      case 7: case 8: case 9: case 10: what = pick(0, 2); due("day(" + a + "," + what + ")", x.day(a, what), m.day(a, what)); break;
      case 11: case 12: v = pick(0, random.nextBoolean() ? 12 : 99); due("cross(" + a + "," + f + "," + v + ")", x.cross(a, f, v), m.cross(a, f, v)); break;
      case 13: due("may(" + a + ")", x.may(a), m.may(a)); break;
      case 14: due("room(" + a + "," + f + ")", x.room(a, f), m.room(a, f)); break;
      case 15: case 16:
        n = random.nextInt(4) == 0 ? pick(0, 8) : pick(0, 3);
        if (n > 4 && n < 9 && random.nextInt(n == 5 ? 3 : 60) != 0) n = 3;
        if (n == 7 || n == 8) n = 6;
        what = random.nextBoolean() ? 0 : random.nextInt(10) == 0 ? pick(-1, 20) : pick(10, 9 + n);
        due("season(" + a + "," + n + "," + what + ")", x.season(a, n, what), m.season(a, n, what)); break;
      case 17: n = pick(0, 3); what = pick(0, 1); if (n > 4 && n < 9) n = 4; due("best(" + n + "," + what + ")", x.best(n, what), m.best(n, what)); break;
      case 18: what = random.nextInt(3) == 0 ? pick(0, 9) : pick(10, 14); if (random.nextInt(3) == 0) due("share(" + f + "," + what + ")", x.share(f, what), m.share(f, what)); break;
      case 19: n = pick(0, 6); what = pick(0, 2); due("span(" + a + "," + n + "," + what + ")", x.span(a, n, what), m.span(a, n, what)); break;
      case 20: n = pick(0, 6); s = pick(0, random.nextInt(5) == 0 ? 999 : 210); what = pick(0, 1); due("goods(" + a + "," + f + "," + n + "," + s + "," + what + ")", x.goods(a, f, n, s, what), m.goods(a, f, n, s, what)); break;
      case 21: s = m.isOne(a) && random.nextInt(9) > 0 ? m.now.limit(a) - random.nextInt(4) : pick(0, 999); due("see(" + f + "," + s + ")", x.see(f, s), m.see(f, s)); break;
      case 22: n = pick(0, m.seen.size()); if (random.nextInt(3) == 0) due("forget(" + n + ")", x.forget(n), m.forget(n)); break;
      case 23: case 24: what = random.nextInt(3) == 0 ? 0 : random.nextInt(9) == 0 ? pick(-1, 30) : pick(10, 13) + (random.nextBoolean() ? 10 : 0); due("whose(" + what + ")", x.whose(what), m.whose(what)); break;
      case 25: v = pick(0, 199); s = random.nextInt(9) == 0 ? pick(0, 999) : v + pick(-2, 2); due("probe(" + f + "," + v + "," + s + ")", x.probe(f, v, s), m.probe(f, v, s)); break;
      case 26: n = pick(0, m.tried.size()); if (random.nextInt(3) == 0) due("clear(" + n + ")", x.clear(n), m.clear(n)); break;
      case 27: due("errs(" + f + ")", x.errs(f), m.errs(f)); break;
      case 28: v = random.nextInt(); n = pick(1, 60); what = pick(0, 1); due("drift(" + v + "," + a + "," + n + "," + what + ")", x.drift(v, a, n, what), m.drift(v, a, n, what)); break;
      case 29: k = pick(0, 1); due("keep(" + k + ")", x.keep(k), m.keep(k)); break;
      case 30: k = pick(0, 1); if (random.nextInt(3) == 0) due("back(" + k + ")", x.back(k), m.back(k)); break;
      case 31: k = pick(0, 3); v = pick(0, 2); n = random.nextInt(3) == 0 ? pick(0, 40) : pick(0, 10); due("sheet(" + k + "," + v + "," + n + ")", x.sheet(k, v, n), m.sheet(k, v, n)); break;
      case 32:
        k = pick(0, 3);
        for (int j = 0; j < 10; j += 2) {
          v = one() + (random.nextInt(6) == 0 ? 256 : 0) + (random.nextInt(9) == 0 ? 65536 : 0);
          due("lay(" + k + "," + j + "," + v + ")", x.lay(k, j, v), m.lay(k, j, v));
          i = random.nextInt(20) == 0 ? pick(0, 40) : j + 1;
          v = pick(0, 2);
          due("lay(" + k + "," + i + "," + v + ")", x.lay(k, i, v), m.lay(k, i, v));
        }
        break;
      default:
        k = pick(0, 3);
        v = random.nextInt(3) == 0 ? pick(0, 2) : m.sheets[k & 3] instanceof byte[] ? 0 : m.sheets[k & 3] instanceof short[] ? 1 : 2;
        s = random.nextBoolean() ? 0 : pick(0, 10);
        n = random.nextInt(4) == 0 ? pick(0, 20) : pick(0, 5);
        due("read(" + k + "," + v + "," + s + "," + n + ")", x.read(k, v, s, n), m.read(k, v, s, n));
        due("torn()", x.torn(), m.torn());
    }
  }
}
