import java.util.Random;

/** Seasons of 7 and 8 days, too long for the model's copies, against a plain walk of every row. */
public final class SeasonTest {
  private static final String[] KINDS = {"plain", "abbot", "faster", "twin", "walker"};
  private static int law, kind, frontiers, length, best;
  private static final int[] error = new int[3], price = new int[3], row = new int[8], bestRow = new int[8];

  public static void main(String[] args) {
    Random random = new Random(5);
    int wrong = 0;
    for (int i = 0; i < 1500; i++) {
      String text = text(random);
      length = 7 + random.nextInt(2);
      wrong += holds(text) ? 0 : 1;
    }
    System.out.println(wrong == 0 ? "all long seasons are as walked" : wrong + " long seasons are not as walked");
    if (wrong != 0) System.exit(1);
  }

  private static int weight, bound;

  private static String text(Random random) {
    law = random.nextInt(3);
    kind = random.nextInt(5);
    weight = lean() + random.nextInt(random.nextBoolean() ? 6 : 100 - lean());
    bound = random.nextInt(3) == 0 ? random.nextInt(200) : Math.min(199, weight + random.nextInt(random.nextBoolean() ? 8 : 130));
    StringBuilder b = new StringBuilder("law " + law + ";one " + KINDS[kind] + " " + weight + " " + bound + ";");
    frontiers = 1 + random.nextInt(3);
    for (int f = 0; f < frontiers; f++) {
      error[f] = random.nextInt(5);
      price[f] = 1 + random.nextInt(9);
      b.append("frontier ").append(error[f]).append(' ').append(price[f]).append(';');
    }
    while (b.length() % 8 != 0) b.append(' ');
    return b.toString();
  }

  private static boolean holds(String text) {
    WeighedSelf x = new WeighedSelf();
    for (int i = 0; i < text.length(); i += 8) {
      long v = 0;
      for (int j = 0; j < 8; j++) v = v << 8 | text.charAt(i + j);
      x.feed(v);
    }
    x.text();
    best = WeighedSelf.NONE;
    walk(0, weight, bound, 0);
    boolean same = x.season(0, length, 0) == best;
    for (int k = 0; k < length; k++) same &= x.season(0, length, 10 + k) == (best < 0 ? best : bestRow[k]);
    if (!same) System.out.println(text + " for " + length + " days: " + x.season(0, length, 0) + ", due is " + best);
    return same;
  }

  private static int lean() { return kind == 1 ? 40 : 20; }

  private static void walk(int k, int body, int limit, int money) {
    if (k == length) {
      if (money > best) {
        best = money;
        System.arraycopy(row, 0, bestRow, 0, 8);
      }
      return;
    }
    int rested = kind == 2 ? body : body - 1, meal = kind == 1 ? 3 : 2, walked = kind == 4 ? body - 1 : body - 2;
    row[k] = 0;
    if (rested >= lean()) walk(k + 1, rested, limit, money);
    row[k] = 1;
    if (body + meal <= 99 && !(law == 1 && k % 7 == 0)) walk(k + 1, body + meal, Math.max(0, limit - meal), money);
    row[k] = 2;
    if (walked >= lean()) walk(k + 1, walked, limit, money);
    for (int f = 0; f < frontiers && rested >= lean(); f++) {
      int shown = body + error[f] - 2;
      int goods = Math.min(law == 2 ? 5 : 99, limit - shown);
      row[k] = 3 + f;
      if (goods >= 0) walk(k + 1, rested, shown + goods, money + goods * price[f]);
    }
  }
}
