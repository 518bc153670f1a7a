/** What the tests of the boundaries share: texts told to an object, and answers held against those that are due. */
final class Given {
  static final int BAD = -1, STATE = -2, FULL = -3, NONE = -4;
  static final String[] KINDS = {"plain", "abbot", "faster", "twin", "walker"};
  private static int wrong;
  private static String sentence = "";

  private Given() {}

  /** Which sentence of the document the answers that follow are about. */
  static void sentence(String words) { sentence = words; }

  static void due(String call, int got, int want) {
    if (got != want) fail(call + " answered " + got + ", due is " + want);
  }

  static void fail(String what) {
    wrong++;
    System.out.println("[" + sentence + "] " + what);
  }

  /** The exit code is 1 if one answer was not as due. */
  static void finish(String whole) {
    System.out.println(wrong == 0 ? whole : wrong + " answers are not as due");
    if (wrong != 0) System.exit(1);
  }

  /** Puts a text behind what the tape has. */
  static void feed(WeighedSelf x, String text) {
    int ahead = x.count(3);
    StringBuilder b = new StringBuilder(text);
    while (b.length() % 8 != 0) b.append(' ');
    for (int i = 0; i < b.length(); i += 8) x.feed(eight(b.substring(i, i + 8)));
    x.end(ahead + text.length());
  }

  static long eight(String signs) {
    long v = 0;
    for (int j = 0; j < 8; j++) v = v << 8 | signs.charAt(j);
    return v;
  }

  static int told(WeighedSelf x, String text) {
    feed(x, text);
    return x.text();
  }

  static WeighedSelf of(String text) {
    WeighedSelf x = new WeighedSelf();
    int lines = told(x, text);
    if (lines < 0) fail("text() of " + text + " answered " + lines);
    return x;
  }

  static int lean(int kind) { return kind == 1 ? 40 : 20; }

  /** So many days of REST of ONE 0, twenty a call, as an object is used for 512 calls at most; SHEET 3 is written anew. */
  static void rest(WeighedSelf x, int n) {
    x.sheet(3, 0, 40);
    for (int left = n; left > 0; left -= 20) x.read(3, 0, 0, Math.min(20, left));
  }

  static String blanks(int n) { return " ".repeat(n); }
}
