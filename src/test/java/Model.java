import java.util.ArrayList;
import java.util.Arrays;
import java.util.List;
import java.util.TreeSet;

/**
 * The document once more, as plainly as may be: whole states copied for every day that is tried,
 * every row of a season walked, sheets that are real arrays whose faults the machine throws.
 */
final class Model {
  static final int BAD = -1, STATE = -2, FULL = -3, NONE = -4;
  static final List<String> KINDS = List.of("plain", "abbot", "faster", "twin", "walker");

  static final class One {
    String kind;
    int body, book, eaten, money, days;

    One copy() {
      One c = new One();
      c.kind = kind; c.body = body; c.book = book; c.eaten = eaten; c.money = money; c.days = days;
      return c;
    }
  }

  static final class World {
    List<One> people = new ArrayList<>();
    List<int[]> frontiers = new ArrayList<>();
    List<Integer> loads = new ArrayList<>();
    int law;

    World copy() {
      World w = new World();
      for (One o : people) w.people.add(o.copy());
      for (int[] f : frontiers) w.frontiers.add(f.clone());
      w.loads.addAll(loads);
      w.law = law;
      return w;
    }

    int lean(int p) { return people.get(p).kind.equals("abbot") ? 40 : 20; }

    int limit(int p) { return Math.max(0, people.get(p).book - people.get(p).eaten); }

    List<One> sharing(int p) {
      List<One> all = new ArrayList<>();
      for (One o : people) {
        if (o == people.get(p) || o.kind.equals("twin") && people.get(p).kind.equals("twin")) all.add(o);
      }
      return all;
    }

    boolean bodyFits(int p, int body) { return body >= lean(p) && body <= 99; }

    /** The world behind such a day, or null. */
    World home(int p, int what) {
      World w = copy();
      One o = w.people.get(p);
      if (what == 0 && !o.kind.equals("faster")) o.body -= 1;
      if (what == 1) {
        if (law == 1 && o.days % 7 == 0) return null;
        int meal = o.kind.equals("abbot") ? 3 : 2;
        o.body += meal;
        for (One q : w.sharing(p)) q.eaten += meal;
      }
      if (what == 2) o.body -= o.kind.equals("walker") ? 1 : 2;
      o.days++;
      return w.bodyFits(p, o.body) ? w : null;
    }

    int shown(int p, int f, int goods) { return people.get(p).body + goods + frontiers.get(f)[0] - 2; }

    World crossed(int p, int f, int goods) {
      World w = copy();
      One o = w.people.get(p);
      int shown = shown(p, f, goods);
      if (goods > 99 || shown > limit(p) || law == 2 && goods > 5) return null;
      o.money += goods * frontiers.get(f)[1];
      for (One q : w.sharing(p)) { q.book = shown; q.eaten = 0; }
      if (!o.kind.equals("faster")) o.body--;
      o.days++;
      return w.bodyFits(p, o.body) ? w : null;
    }

    int room(int p, int f) {
      for (int g = 99; g >= 0; g--) if (crossed(p, f, g) != null) return g;
      return NONE;
    }
  }

  World now = new World();
  World[] images = new World[2];
  List<Integer> tape = new ArrayList<>();
  int fault, torn;
  List<int[]> seen = new ArrayList<>(), tried = new ArrayList<>();
  Object[] sheets = new Object[4];

  boolean isOne(int p) { return p >= 0 && p < now.people.size(); }

  boolean isFrontier(int f) { return f >= 0 && f < now.frontiers.size(); }

  static boolean in(int v, int a, int b) { return a <= v && v <= b; }

  int feed(long v) {
    if (tape.size() + 8 > 320) return FULL;
    for (int i = 7; i >= 0; i--) tape.add((int) (v >> (8 * i)) & 255);
    return tape.size();
  }

  int end(int n) {
    int had = tape.size();
    if (!in(n, 0, had)) return BAD;
    tape = new ArrayList<>(tape.subList(0, n));
    return had;
  }

  @SuppressWarnings("serial")
  static final class Fault extends Exception {
    final int which, place;

    Fault(int which, int place) { this.which = which; this.place = place; }
  }

  String input;
  int at, tokenAt;

  String token() throws Fault {
    while (at < input.length() && input.charAt(at) == ' ') at++;
    tokenAt = at;
    if (at == input.length()) return "";
    String rest = input.substring(at);
    for (String shape : new String[] {"[a-z]+", "[0-9]+", ";"}) {
      java.util.regex.Matcher m = java.util.regex.Pattern.compile(shape).matcher(rest);
      if (m.lookingAt()) {
        at += m.end();
        if (shape.equals("[0-9]+") && m.end() > 3) throw new Fault(1, tokenAt);
        return m.group();
      }
    }
    throw new Fault(1, tokenAt);
  }

  int number(int low, int high) throws Fault {
    String t = token();
    if (!t.matches("[0-9]+")) throw new Fault(2, tokenAt);
    int v = Integer.parseInt(t);
    if (!in(v, low, high)) throw new Fault(3, tokenAt);
    return v;
  }

  void semicolon() throws Fault {
    if (!token().equals(";")) throw new Fault(2, tokenAt);
  }

  int text() {
    StringBuilder b = new StringBuilder();
    for (int c : tape) b.append((char) c);
    input = b.toString();
    at = 0;
    tape.clear();
    World w = new World();
    int lines = 0;
    boolean law = false;
    try {
      for (String t = token(); !t.isEmpty(); t = token()) {
        if (t.equals("law")) {
          if (law) throw new Fault(4, tokenAt);
          law = true;
          w.law = number(0, 2);
          semicolon();
        } else if (t.equals("one")) {
          if (w.people.size() == 4) throw new Fault(5, tokenAt);
          One o = new One();
          o.kind = token();
          if (!KINDS.contains(o.kind)) throw new Fault(2, tokenAt);
          o.body = number(o.kind.equals("abbot") ? 40 : 20, 99);
          o.book = number(0, 199);
          w.people.add(o);
          semicolon();
        } else if (t.equals("frontier")) {
          if (w.frontiers.size() == 3) throw new Fault(5, tokenAt);
          int e = number(0, 4);
          w.frontiers.add(new int[] {e, number(1, 9)});
          semicolon();
        } else if (t.equals("load")) {
          String n = token();
          do {
            if (!n.matches("[0-9]+")) throw new Fault(2, tokenAt);
            if (w.loads.size() == 5) throw new Fault(5, tokenAt);
            if (!in(Integer.parseInt(n), 1, 30)) throw new Fault(3, tokenAt);
            w.loads.add(Integer.parseInt(n));
            n = token();
          } while (!n.equals(";"));
        } else {
          throw new Fault(2, tokenAt);
        }
        lines++;
      }
    } catch (Fault f) {
      fault = f.which;
      return -10 - f.place;
    }
    One first = null;
    for (One o : w.people) {
      if (o.kind.equals("twin")) {
        if (first == null) first = o;
        o.book = first.book;
      }
    }
    fault = 0;
    now = w;
    seen.clear();
    tried.clear();
    images = new World[2];
    return lines;
  }

  int fault() { return fault; }

  int rule(int what) {
    return what == 0 ? now.people.size() : what == 1 ? now.frontiers.size() : what == 2 ? now.law : what == 3 ? now.loads.size() : BAD;
  }

  int one(int p, int what) {
    if (!isOne(p) || !in(what, 0, 6)) return BAD;
    One o = now.people.get(p);
    return new int[] {KINDS.indexOf(o.kind), o.body, o.book, o.eaten, now.limit(p), o.money, o.days}[what];
  }

  int frontier(int f, int what) { return isFrontier(f) && in(what, 0, 1) ? now.frontiers.get(f)[what] : BAD; }

  int load(int i) { return in(i, 0, now.loads.size() - 1) ? now.loads.get(i) : BAD; }

  int law(int v) {
    if (!in(v, 0, 2)) return BAD;
    int was = now.law;
    now.law = v;
    return was;
  }

  int set(int f, int which, int v, int low, int high) {
    if (!isFrontier(f) || !in(v, low, high)) return BAD;
    int was = now.frontiers.get(f)[which];
    now.frontiers.get(f)[which] = v;
    return was;
  }

  int err(int f, int v) { return set(f, 0, v, 0, 4); }

  int price(int f, int v) { return set(f, 1, v, 1, 9); }

  int body(int p, int v) {
    if (!isOne(p) || !now.bodyFits(p, v)) return BAD;
    int was = now.people.get(p).body;
    now.people.get(p).body = v;
    return was;
  }

  int book(int p, int v) {
    if (!isOne(p) || !in(v, 0, 199)) return BAD;
    int was = now.people.get(p).book;
    for (One q : now.sharing(p)) { q.book = v; q.eaten = 0; }
    return was;
  }

  int add(int v) {
    if (!in(v, 1, 30)) return BAD;
    if (now.loads.size() == 5) return FULL;
    now.loads.add(v);
    return now.loads.size();
  }

  static <T> int cut(List<T> list, int n) {
    int had = list.size();
    if (!in(n, 0, had)) return BAD;
    while (list.size() > n) list.remove(list.size() - 1);
    return had;
  }

  int drop(int n) { return cut(now.loads, n); }

  int day(int p, int what) {
    if (!isOne(p) || !in(what, 0, 2)) return BAD;
    World then = now.home(p, what);
    if (then == null) return STATE;
    if (then.people.get(p).days == 1000) return FULL;
    now = then;
    return now.people.get(p).body;
  }

  int cross(int p, int f, int goods) {
    if (!isOne(p) || !isFrontier(f) || !in(goods, 0, 99)) return BAD;
    World then = now.crossed(p, f, goods);
    if (then == null) return STATE;
    if (then.people.get(p).days == 1000 || then.people.get(p).money > 9999) return FULL;
    now = then;
    return now.people.get(p).book;
  }

  int may(int p) {
    if (!isOne(p)) return BAD;
    int bits = 0;
    for (int what = 0; what < 3; what++) if (now.home(p, what) != null) bits += 1 << what;
    for (int f = 0; f < now.frontiers.size(); f++) if (now.crossed(p, f, 0) != null) bits += 8 << f;
    return bits;
  }

  int room(int p, int f) { return isOne(p) && isFrontier(f) ? now.room(p, f) : BAD; }

  int[] bestRow;
  int bestMoney;

  void rows(World w, int p, int[] row, int k) {
    if (k == row.length) {
      int more = w.people.get(p).money - now.people.get(p).money;
      if (more > bestMoney) {
        bestMoney = more;
        bestRow = row.clone();
      }
      return;
    }
    for (int what = 0; what < 3 + w.frontiers.size(); what++) {
      World then = what < 3 ? w.home(p, what) : w.room(p, what - 3) < 0 ? null : w.crossed(p, what - 3, w.room(p, what - 3));
      if (then != null) {
        row[k] = what;
        rows(then, p, row, k + 1);
      }
    }
  }

  int season(int p, int n, int what) {
    if (!isOne(p) || !in(n, 0, 8) || what != 0 && !in(what - 10, 0, n - 1)) return BAD;
    bestMoney = -1;
    bestRow = null;
    rows(now, p, new int[n], 0);
    if (bestRow == null) return NONE;
    return what == 0 ? bestMoney : bestRow[what - 10];
  }

  int best(int n, int what) {
    if (!in(n, 0, 8) || !in(what, 0, 1)) return BAD;
    int who = NONE, money = NONE;
    for (int p = now.people.size() - 1; p >= 0; p--) {
      int m = season(p, n, 0);
      if (m != NONE && m >= money) {
        who = p;
        money = m;
      }
    }
    return what == 0 ? who : money;
  }

  int share(int f, int what) {
    int n = now.loads.size();
    if (!isFrontier(f) || what != 0 && !in(what - 10, 0, n - 1)) return BAD;
    int ways = now.people.size() + 1, all = 1, most = -1;
    int[] first = null;
    for (int i = 0; i < n; i++) all *= ways;
    for (int code = 0; code < all; code++) {
      int[] with = new int[n], sum = new int[ways];
      for (int i = n - 1, c = code; i >= 0; i--, c /= ways) {
        with[i] = c % ways;
        sum[with[i]] += now.loads.get(i);
      }
      int ounces = 0;
      boolean fits = true;
      for (int p = 1; p < ways; p++) {
        ounces += sum[p];
        fits &= sum[p] == 0 || sum[p] <= now.room(p - 1, f);
      }
      if (fits && ounces > most) {
        most = ounces;
        first = with;
      }
    }
    return what == 0 ? most : first[what - 10] == 0 ? NONE : first[what - 10] - 1;
  }

  TreeSet<Integer> bodies(int p, int n) {
    TreeSet<Integer> can = new TreeSet<>();
    bodies(now, p, n, can);
    return can;
  }

  void bodies(World w, int p, int n, TreeSet<Integer> can) {
    if (n == 0) can.add(w.people.get(p).body);
    for (int what = 0; what < 3 && n > 0; what++) {
      World then = w.home(p, what);
      if (then != null) bodies(then, p, n - 1, can);
    }
  }

  int span(int p, int n, int what) {
    if (!isOne(p) || !in(n, 0, 6) || !in(what, 0, 2)) return BAD;
    TreeSet<Integer> can = bodies(p, n);
    if (what == 2) return can.size();
    return can.isEmpty() ? NONE : what == 0 ? can.first() : can.last();
  }

  int goods(int p, int f, int n, int s, int what) {
    if (!isOne(p) || !isFrontier(f) || !in(n, 0, 6) || !in(s, 0, 999) || !in(what, 0, 1)) return BAD;
    TreeSet<Integer> goods = new TreeSet<>();
    for (int b : bodies(p, n)) {
      int g = s + 2 - b - now.frontiers.get(f)[0];
      if (in(g, 0, 99)) goods.add(g);
    }
    return goods.isEmpty() ? NONE : what == 0 ? goods.first() : goods.last();
  }

  int see(int f, int s) {
    if (!isFrontier(f) || !in(s, 0, 999)) return BAD;
    if (seen.size() == 4) return FULL;
    seen.add(new int[] {f, s});
    return seen.size();
  }

  int forget(int n) { return cut(seen, n); }

  int whose(int what) {
    int k = what >= 20 ? what - 20 : what - 10, n = seen.size(), many = now.people.size();
    if (what != 0 && !in(k, 0, n - 1)) return BAD;
    List<int[]> rows = new ArrayList<>();
    for (int code = 0; code < Math.pow(many, n); code++) {
      int[] row = new int[n];
      boolean fits = true;
      for (int i = n - 1, c = code; i >= 0; i--, c /= many) row[i] = c % many;
      for (int i = 0; i < n && fits; i++) {
        for (int j = 0; j < i; j++) fits &= row[i] != row[j];
        boolean can = false;
        for (int g = 0; g < 100; g++) {
          can |= now.shown(row[i], seen.get(i)[0], g) == seen.get(i)[1] && now.crossed(row[i], seen.get(i)[0], g) != null;
        }
        fits &= can;
      }
      if (fits) rows.add(row);
    }
    if (what == 0) return rows.size();
    if (rows.isEmpty()) return NONE;
    int who = rows.get(0)[k];
    if (what >= 20) for (int[] row : rows) if (row[k] != who) return NONE;
    return who;
  }

  int probe(int f, int w, int s) {
    if (!isFrontier(f) || !in(w, 0, 199) || !in(s, 0, 999)) return BAD;
    if (tried.size() == 6) return FULL;
    tried.add(new int[] {f, w, s});
    return tried.size();
  }

  int clear(int n) { return cut(tried, n); }

  int errs(int f) {
    if (!isFrontier(f)) return BAD;
    int bits = 0;
    for (int e = 0; e < 5; e++) {
      boolean can = true;
      for (int[] t : tried) can &= t[0] != f || t[1] + e - 2 == t[2];
      if (can) bits |= 1 << e;
    }
    return bits;
  }

  int drift(int seed, int p, int n, int what) {
    if (!isOne(p) || !in(n, 1, 60) || !in(what, 0, 1)) return BAD;
    World w = now.copy();
    for (int i = 0; i < n; i++) {
      seed = seed * 1103515245 + 12345;
      World then = w.home(p, ((seed >> 16) & 32767) % 3);
      if (then != null) w = then; else w.people.get(p).days++;
    }
    return what == 0 ? w.people.get(p).body : w.people.get(p).eaten;
  }

  int keep(int k) {
    if (!in(k, 0, 1)) return BAD;
    int was = images[k] == null ? 0 : 1;
    images[k] = now.copy();
    return was;
  }

  int back(int k) {
    if (!in(k, 0, 1)) return BAD;
    if (images[k] == null) return STATE;
    now = images[k].copy();
    return now.loads.size();
  }

  int sheet(int k, int lane, int n) {
    if (!in(k, 0, 3) || !in(lane, 0, 2) || n > 40) return BAD;
    try {
      sheets[k] = lane == 0 ? new byte[n] : lane == 1 ? (Object) new short[n] : new int[n];
      return 1;
    } catch (NegativeArraySizeException e) {
      return -14;
    }
  }

  int lay(int k, int i, int v) {
    if (!in(k, 0, 3)) return BAD;
    try {
      if (sheets[k] instanceof byte[]) ((byte[]) sheets[k])[i] = (byte) v;
      else if (sheets[k] instanceof short[]) ((short[]) sheets[k])[i] = (short) v;
      else ((int[]) sheets[k])[i] = v;
      return 1;
    } catch (NullPointerException e) {
      return -11;
    } catch (ArrayIndexOutOfBoundsException e) {
      return -12;
    }
  }

  static int cell(Object row, int lane, int i) {
    return lane == 0 ? ((byte[]) row)[i] : lane == 1 ? ((short[]) row)[i] : ((int[]) row)[i];
  }

  int read(int k, int lane, int f, int n) {
    if (!in(k, 0, 3) || !in(lane, 0, 2) || !in(n, 0, 20)) return BAD;
    World before = now.copy();
    int i = 0, found = 0;
    try {
      for (; i < n; i++) {
        int p = cell(sheets[k], lane, f + 2 * i);
        int what = cell(sheets[k], lane, f + 2 * i + 1);
        if (day(p, what) < 0) {
          now = before;
          return -20 - i;
        }
      }
    } catch (NullPointerException e) {
      found = 1;
    } catch (ArrayIndexOutOfBoundsException e) {
      found = 2;
    } catch (ClassCastException e) {
      found = 3;
    }
    torn = found;
    return i;
  }

  int torn() { return torn; }

  int count(int what) {
    switch (what) {
      case 0: return seen.size();
      case 1: return tried.size();
      case 2: return (int) Arrays.stream(images).filter(x -> x != null).count();
      case 3: return tape.size();
      case 4: return sheets[0] == null ? NONE : java.lang.reflect.Array.getLength(sheets[0]);
      case 5: return now.loads.stream().mapToInt(x -> x).sum();
      default: return BAD;
    }
  }
}
