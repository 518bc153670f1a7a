/** The boundaries of the tape and of the text: promises 2 to 5, and what "Terms" says of TOKENS, lines and FAULTS. */
public final class TapeTest {
  private static final int BAD = Given.BAD, FULL = Given.FULL;

  public static void main(String[] args) {
    tapeHas320Bytes();
    highestFirst();
    keepsItsFirstBytes();
    emptyThen();
    bytesWhereALineBegins();
    bytesBehindAName();
    bytesBehindANumber();
    bytesBetweenFigures();
    oneToThreeFigures();
    asLongAsMayBe();
    blanksBetween();
    lines();
    namesThatBeginALine();
    namesOfKinds();
    theEnd();
    placesFrom0();
    numbersInTheirBounds();
    howManyThereAre();
    sixthLoad();
    lawTwice();
    firstMet();
    takenTellsAll();
    twinsHaveTheFirstBook();
    notSeenNotTriedNoImages();
    faultOfTheLatest();
    Given.finish("the tape and the text keep their bounds");
  }

  /** A text on a new object: so many lines, or such a FAULT at such a place, and then there is nothing. */
  private static void taken(String text, int lines) {
    WeighedSelf x = new WeighedSelf();
    Given.due("text() of " + text, Given.told(x, text), lines);
    Given.due("fault() of " + text, x.fault(), 0);
  }

  private static void faulty(String text, int fault, int place) {
    WeighedSelf x = new WeighedSelf();
    Given.due("text() of " + text, Given.told(x, text), -10 - place);
    Given.due("fault() of " + text, x.fault(), fault);
    Given.due("nothing is told by " + text, x.rule(0) + x.rule(1) + x.rule(2) + x.rule(3), 0);
  }

  private static void tapeHas320Bytes() {
    Given.sentence("Eight bytes come behind THE TAPE: how many it has. FULL: more than 320");
    for (int n = 0; n <= 320; n++) {
      WeighedSelf x = new WeighedSelf();
      Given.feed(x, Given.blanks(320));
      Given.due("count(3)", x.count(3), 320);
      Given.due("end(" + n + ")", x.end(n), 320);
      Given.due("feed behind " + n, x.feed(Given.eight("law 2;  ")), n <= 312 ? n + 8 : FULL);
      Given.due("count(3) then", x.count(3), n <= 312 ? n + 8 : n);
      Given.due("text() then", x.text(), n <= 312 ? 1 : 0);
      Given.due("LAW", x.rule(2), n <= 312 ? 2 : 0);
    }
  }

  private static void highestFirst() {
    Given.sentence("Eight bytes, the highest first");
    for (int place = 0; place < 8; place++) {
      for (long sign : new long[] {0, 33, 127, 128, 255}) {
        int shift = 56 - 8 * place;
        WeighedSelf x = new WeighedSelf();
        x.feed(0x2020202020202020L & ~(255L << shift) | sign << shift);
        Given.due("byte " + sign + " at " + place, x.text(), -10 - place);
        Given.due("fault()", x.fault(), 1);
      }
    }
    for (long v : new long[] {0, -1, 1, Long.MIN_VALUE, Long.MAX_VALUE}) {
      WeighedSelf x = new WeighedSelf();
      Given.due("feed(" + v + ")", x.feed(v), 8);
      Given.due("text()", x.text(), -10);
      Given.due("fault()", x.fault(), 1);
    }
  }

  private static void keepsItsFirstBytes() {
    Given.sentence("THE TAPE keeps its first n bytes: how many it had. BAD");
    String text = "law 1;load 7;";
    int[] due = {0, -10, -10, -13, -14, -15, 1, -16, -16, -16, -20, -21, -22, 2};
    for (int n = 0; n <= text.length(); n++) {
      WeighedSelf x = new WeighedSelf();
      Given.feed(x, text);
      Given.due("end(14)", x.end(14), BAD);
      Given.due("end(-1)", x.end(-1), BAD);
      Given.due("end(" + n + ")", x.end(n), 13);
      Given.due("end(" + n + ") again", x.end(n), n);
      Given.due("end(" + (n + 1) + ")", x.end(n + 1), BAD);
      Given.due("text() of the first " + n, x.text(), due[n]);
    }
    WeighedSelf x = new WeighedSelf();
    Given.feed(x, "law 1;xxxxxxxxx");
    x.end(6);
    Given.due("bytes come behind what was kept", x.feed(Given.eight("load 7; ")), 14);
    Given.due("text()", x.text(), 2);
    Given.due("end(0) of an empty tape", x.end(0), 0);
    Given.due("end(1) of an empty tape", x.end(1), BAD);
  }

  private static void emptyThen() {
    Given.sentence("THE TAPE (empty then)");
    WeighedSelf x = Given.of("law 2;");
    Given.due("count(3)", x.count(3), 0);
    Given.due("end(1)", x.end(1), BAD);
    Given.due("a FAULT", Given.told(x, "law"), -13);
    Given.due("count(3)", x.count(3), 0);
    Given.due("LAW", x.rule(2), 2);
    Given.due("a feed begins it anew", x.feed(Given.eight("load 7; ")), 8);
    Given.due("text()", x.text(), 1);
    Given.due("an empty text has no lines", x.text(), 0);
    Given.due("fault()", x.fault(), 0);
    Given.due("and tells nothing", x.rule(3), 0);
    WeighedSelf y = new WeighedSelf();
    Given.feed(y, Given.blanks(320));
    Given.due("320 blanks", y.text(), 0);
    Given.feed(y, "law 1;" + Given.blanks(314));
    Given.due("a full tape", y.text(), 1);
    Given.due("has room again", y.feed(0), 8);
  }

  private static boolean letter(int b) { return b >= 'a' && b <= 'z'; }

  private static boolean figure(int b) { return b >= '0' && b <= '9'; }

  private static void bytesWhereALineBegins() {
    Given.sentence("blanks (32) between: NAMES (a .. z), NUMBERS, one ; . FAULT 1 no TOKEN, 2 a TOKEN that can not stand there");
    for (int b = 0; b < 256; b++) {
      String text = "law 1;" + (char) b;
      if (b == ' ') taken(text, 1);
      else faulty(text, letter(b) || figure(b) || b == ';' ? 2 : 1, 6);
    }
  }

  private static void bytesBehindAName() {
    Given.sentence("NAMES (a .. z), each as long as may be");
    for (int b = 0; b < 256; b++) {
      String text = "one plain" + (char) b + "30 40;";
      if (b == ' ' || b == '0') taken(text, 1);
      else if (letter(b)) faulty(text, 2, 4);
      else if (figure(b)) faulty(text, 3, 9);
      else faulty(text, b == ';' ? 2 : 1, 9);
    }
  }

  private static void bytesBehindANumber() {
    Given.sentence("NUMBERS (1 to 3 figures), each as long as may be");
    for (int b = 0; b < 256; b++) {
      String text = "law 1" + (char) b + ";";
      if (b == ' ') taken(text, 1);
      else if (figure(b)) faulty(text, 3, 4);
      else if (b == ';') faulty(text, 2, 6);
      else faulty(text, letter(b) ? 2 : 1, 5);
    }
  }

  private static void bytesBetweenFigures() {
    Given.sentence("a NUMBER is of figures alone");
    for (int b = 0; b < 256; b++) {
      String text = "one plain 30 1" + (char) b + "1;";
      if (figure(b)) Given.due("BOOK of " + text, Given.of(text).one(0, 2), 101 + 10 * (b - '0'));
      else if (b == ' ' || b == ';') faulty(text, 2, 15);
      else faulty(text, letter(b) ? 2 : 1, 14);
    }
  }

  private static void oneToThreeFigures() {
    Given.sentence("FAULT 1: a NUMBER that is too long (its first byte)");
    taken("law 2;", 1);
    taken("law 02;", 1);
    taken("law 002;", 1);
    faulty("law 0002;", 1, 4);
    faulty("law 00002;", 1, 4);
    faulty("law 4294967297;", 1, 4);
    faulty("law " + "0".repeat(315) + ";", 1, 4);
    faulty("1".repeat(320), 1, 0);
    faulty("law  1000", 1, 5);
    faulty("law 1 1000", 1, 6);
    faulty("one 1000", 1, 4);
    faulty("one plain 0020 40;", 1, 10);
    faulty("one plain 20 0040;", 1, 13);
    faulty("frontier 0000 1;", 1, 9);
    faulty("frontier 0 0001;", 1, 11);
    faulty("load 1 0001;", 1, 7);
    faulty("0000", 1, 0);
    faulty("000", 2, 0);
    WeighedSelf x = Given.of("law 002;one plain 020 199;frontier 000 009;load 030 001;");
    int[] got = {x.rule(2), x.one(0, 1), x.one(0, 2), x.frontier(0, 0), x.frontier(0, 1), x.load(0), x.load(1)};
    int[] want = {2, 20, 199, 0, 9, 30, 1};
    for (int i = 0; i < got.length; i++) Given.due("NUMBER " + i, got[i], want[i]);
  }

  private static void asLongAsMayBe() {
    Given.sentence("TOKENS, each as long as may be");
    faulty("lawlaw 1;", 2, 0);
    faulty("law 11;", 3, 4);
    faulty("load 3030;", 1, 5);
    faulty("onetwin 30 40;", 2, 0);
    faulty("one twin 3040;", 1, 9);
    faulty("one twin 304;", 3, 9);
    taken("law1;one twin30 40;frontier0 1;load1 2;", 4);
    faulty("law 1law", 2, 5);
    faulty("law 1one", 2, 5);
    faulty("1law", 2, 0);
  }

  private static void blanksBetween() {
    Given.sentence("blanks (32) between");
    taken("law" + Given.blanks(315) + "1;", 1);
    taken(Given.blanks(314) + "law 1;", 1);
    taken("  law  1  ;  load  1  2  ;  ", 2);
    taken(" ", 0);
    faulty("la w 1;", 2, 0);
    faulty("load 1;  ;", 2, 9);
    faulty("one pla in 30 40;", 2, 4);
    faulty("one twin 3 0 40;", 3, 9);
  }

  private static void lines() {
    Given.sentence("text: { line }: how many lines");
    taken("", 0);
    taken("law 1;", 1);
    String most = "load 1;load 1;load 1;load 1;load 1;";
    for (int i = 0; i < 3; i++) most += "frontier 4 9;";
    for (int i = 0; i < 4; i++) most += "one walker 99 199;";
    taken(most, 12);
    taken(most + "law 2;", 13);
    taken("law 2;" + most, 13);
    faulty(most + "law 2;load 1;", 5, most.length() + 11);
    faulty(";", 2, 0);
    faulty("law 1;;", 2, 6);
    faulty("load;", 2, 4);
    faulty("load 1 ; 2;", 2, 9);
    faulty("frontier 1;", 2, 10);
    faulty("frontier;", 2, 8);
    faulty("frontier 1 1 1;", 2, 13);
    faulty("one;", 2, 3);
    faulty("one plain;", 2, 9);
    faulty("one plain 20;", 2, 12);
    faulty("one plain 20 1 1;", 2, 15);
    faulty("law;", 2, 3);
    faulty("law 1 1;", 2, 6);
    faulty("law law;", 2, 4);
    faulty("load 1 law;", 2, 7);
    faulty("load law;", 2, 5);
    faulty("frontier x 1;", 2, 9);
    faulty("frontier 1 x;", 2, 11);
    faulty("one plain x 1;", 2, 10);
    faulty("one plain 20 x;", 2, 13);
  }

  private static void namesThatBeginALine() {
    Given.sentence("FAULT 2: a NAME that begins no line");
    for (String name : new String[] {"law", "one", "frontier", "load"}) {
      faulty(name, 2, name.length());
      faulty(name.substring(0, name.length() - 1), 2, 0);
      faulty(name.substring(1), 2, 0);
      faulty(name + "s", 2, 0);
      faulty("x" + name, 2, 0);
    }
    for (String line : new String[] {"law 1;", "one twin 50 50;", "frontier 1 1;", "load 1;"}) {
      for (int i = 0; i < line.indexOf(' '); i++) faulty(withAnother(line, i), 2, 0);
    }
    for (String kind : Given.KINDS) faulty(kind + " 50 50;", 2, 0);
    faulty("lax 1;", 2, 0);
    faulty("lab 1;", 2, 0);
    faulty("z", 2, 0);
    faulty("a", 2, 0);
    faulty("z".repeat(320), 2, 0);
  }

  /** The text with another letter at such a place. */
  private static String withAnother(String text, int at) {
    return text.substring(0, at) + (text.charAt(at) == 'x' ? 'y' : 'x') + text.substring(at + 1);
  }

  private static void namesOfKinds() {
    Given.sentence("KINDS: 0 plain; 1 abbot; 2 faster; 3 twin; 4 walker. FAULT 2: a NAME that is no K");
    for (int kind = 0; kind < 5; kind++) {
      String name = Given.KINDS[kind];
      Given.due(name, Given.of("one " + name + " 50 60;").one(0, 0), kind);
      faulty("one " + name.substring(0, name.length() - 1) + " 50 60;", 2, 4);
      faulty("one " + name.substring(1) + " 50 60;", 2, 4);
      faulty("one " + name + "s 50 60;", 2, 4);
      faulty("one " + name.toUpperCase() + " 50 60;", 1, 4);
      for (int i = 0; i < name.length(); i++) faulty("one " + withAnother(name, i) + " 50 60;", 2, 4);
    }
    for (String no : new String[] {"law", "one", "load", "frontier", "king"}) faulty("one " + no + " 50 60;", 2, 4);
    faulty("one 50 60;", 2, 4);
    faulty("one ;", 2, 4);
  }

  private static void theEnd() {
    Given.sentence("FAULT 2: or the end: the length");
    String text = "one abbot 40 9;";
    int[] place = {-1, 0, 0, 3, 4, 4, 4, 4, 4, 9, 10, 10, 12, 13, 14};
    taken(text, 1);
    for (int n = 1; n < text.length(); n++) faulty(text.substring(0, n), n == 11 ? 3 : 2, place[n]);
    faulty("law ", 2, 4);
    faulty("law" + Given.blanks(317), 2, 320);
    faulty(Given.blanks(315) + "law 1", 2, 320);
    faulty(Given.blanks(317) + "law", 2, 320);
    faulty("frontier", 2, 8);
    faulty("frontier 1", 2, 10);
    faulty("frontier 1 1", 2, 12);
    faulty("load", 2, 4);
    faulty("load 1", 2, 6);
    faulty("load 1 2 3 4 5", 2, 14);
  }

  private static void placesFrom0() {
    Given.sentence("places from 0");
    for (int place = 0; place < 320; place++) {
      faulty(Given.blanks(place) + "!", 1, place);
      faulty(Given.blanks(place) + ";", 2, place);
    }
  }

  private static void numbersInTheirBounds() {
    Given.sentence("FAULT 3: a NUMBER out of its bounds (an abbot's BODY below 40, too)");
    bounds("law ", 0, 2, ";");
    bounds("frontier ", 0, 4, " 1;");
    bounds("frontier 4 ", 1, 9, ";");
    bounds("load ", 1, 30, ";");
    bounds("load 1 ", 1, 30, ";");
    bounds("load 1 1 1 1 ", 1, 30, ";");
    for (int kind = 0; kind < 5; kind++) {
      String line = "one " + Given.KINDS[kind] + " ";
      bounds(line, Given.lean(kind), 99, " 50;");
      bounds(line + "40 ", 0, 199, ";");
    }
    faulty("one plain 50 200", 3, 13);
    faulty("one abbot 39", 3, 10);
  }

  private static void bounds(String ahead, int low, int high, String behind) {
    for (int v = 0; v <= 999; v++) {
      if (v >= low && v <= high) taken(ahead + v + behind, 1);
      else faulty(ahead + v + behind, 3, ahead.length());
    }
    faulty(ahead + "-1" + behind, 1, ahead.length());
  }

  private static void howManyThereAre() {
    Given.sentence("FAULT 5: the 5th one, the 4th frontier (its NAME)");
    String ones = "one twin 30 1;".repeat(4), frontiers = "frontier 1 1;".repeat(3);
    taken(ones, 4);
    taken(frontiers, 3);
    taken(ones + frontiers, 7);
    faulty(ones + "one twin 30 1;", 5, 56);
    faulty(ones + "one", 5, 56);
    faulty(ones + "one 1000", 5, 56);
    faulty(ones + "  one!", 5, 58);
    faulty(ones + "ones", 2, 56);
    faulty(frontiers + "frontier 1 1;", 5, 39);
    faulty(frontiers + "frontier", 5, 39);
    faulty(frontiers + "frontier 9 0;", 5, 39);
    faulty(ones + frontiers + "one plain 20 1;", 5, 95);
    faulty(frontiers + ones + "frontier 1 1;", 5, 95);
  }

  private static void sixthLoad() {
    Given.sentence("FAULT 5: the 6th LOAD (it, however great)");
    taken("load 1 2 3 4 5;", 1);
    taken("load 1 2 3;load 4 5;", 2);
    for (String sixth : new String[] {"1", "30", "31", "0", "999", "000"}) {
      faulty("load 1 2 3 4 5 " + sixth + ";", 5, 15);
      faulty("load 1 2 3;load 4 5 " + sixth + ";", 5, 20);
      faulty("load 1 2 3 4 5;load " + sixth + ";", 5, 20);
      faulty("load 1;load 2;load 3;load 4;load 5;load " + sixth + ";", 5, 40);
      faulty("load 1 2 3 4 5 " + sixth, 5, 15);
    }
    faulty("load 1 2 3 4 5 1000;", 1, 15);
    faulty("load 1 2 3 4 5;load;", 2, 19);
    faulty("load 1 2 3 4 5;load x;", 2, 20);
    faulty("load 1 2 3 4 31 1;", 3, 13);
  }

  private static void lawTwice() {
    Given.sentence("FAULT 4: law for the second time (its NAME)");
    for (int v = 0; v <= 2; v++) {
      faulty("law " + v + ";law " + v + ";", 4, 6);
      faulty("law " + v + ";load 1;  law 3", 4, 15);
    }
    faulty("law 0;law", 4, 6);
    faulty("law 0;law!", 4, 6);
    faulty("law 0;laws", 2, 6);
    taken("law 0;", 1);
  }

  private static void firstMet() {
    Given.sentence("FAULTS, the first met as it is read (a TOKEN is read when the one before has been taken)");
    faulty("law 3!", 3, 4);
    faulty("law 3;law 1;", 3, 4);
    faulty("law 1!", 1, 5);
    faulty("laws!", 2, 0);
    faulty("one king!", 2, 4);
    faulty("one plain 19 200;", 3, 10);
    faulty("one plain 20 200!", 3, 13);
    faulty("frontier 5 10;", 3, 9);
    faulty("load 0 31;", 3, 5);
    faulty("load 1 2 3 4 5 6 !", 5, 15);
    faulty("law 1;law 1;!", 4, 6);
    faulty("!law 3;", 1, 0);
  }

  private static void takenTellsAll() {
    Given.sentence("A text that is taken tells all, in place of what there was");
    String all = "law 2;one plain 30 199;one abbot 60 75;frontier 2 3;frontier 0 2;load 5 3;";
    String[] texts = {"", "law 1;", "one walker 20 0;", "frontier 4 9;", "load 30;", all};
    int[][] rules = {{0, 0, 0, 0}, {0, 0, 1, 0}, {1, 0, 0, 0}, {0, 1, 0, 0}, {0, 0, 0, 1}, {2, 2, 2, 2}};
    for (int i = 0; i < texts.length; i++) {
      WeighedSelf x = Given.of(all);
      x.cross(0, 0, 3);
      x.day(0, 1);
      x.day(1, 2);
      x.law(1);
      x.add(9);
      Given.told(x, texts[i]);
      for (int what = 0; what < 4; what++) Given.due("rule(" + what + ") by " + texts[i], x.rule(what), rules[i][what]);
      for (int p = 0; p < 4; p++) {
        for (int what : new int[] {3, 5, 6}) {
          Given.due("one(" + p + ", " + what + ") by " + texts[i], x.one(p, what), p < rules[i][0] ? 0 : BAD);
        }
      }
      Given.due("load(2)", x.load(2), BAD);
    }
  }

  private static void twinsHaveTheFirstBook() {
    Given.sentence("twins have the BOOK of the first of them");
    WeighedSelf x = Given.of("one plain 30 7;one twin 30 11;one twin 30 22;one twin 30 33;");
    int[] books = {7, 11, 11, 11};
    for (int p = 0; p < 4; p++) Given.due("BOOK of " + p, x.one(p, 2), books[p]);
    for (int kind : new int[] {0, 1, 2, 4}) {
      String line = "one " + Given.KINDS[kind] + " 50 ";
      WeighedSelf y = Given.of(line + "1;" + line + "2;one twin 50 3;");
      for (int p = 0; p < 3; p++) Given.due("BOOK of " + p, y.one(p, 2), p + 1);
    }
  }

  private static void notSeenNotTriedNoImages() {
    Given.sentence("nothing is SEEN, TRIED; IMAGES are gone");
    for (String text : new String[] {"", "one plain 30 40;frontier 2 3;"}) {
      WeighedSelf x = Given.of("one plain 30 40;frontier 2 3;");
      for (int i = 0; i < 4; i++) x.see(0, 40);
      for (int i = 0; i < 6; i++) x.probe(0, 40, 44);
      x.keep(0);
      x.keep(1);
      x.sheet(0, 1, 40);
      Given.told(x, text);
      int[] counts = {0, 0, 0, 0, 40, 0};
      for (int what = 0; what < 6; what++) Given.due("count(" + what + ")", x.count(what), counts[what]);
      Given.due("back(0)", x.back(0), Given.STATE);
      Given.due("back(1)", x.back(1), Given.STATE);
      Given.due("whose(0)", x.whose(0), 1);
      Given.due("forget(1)", x.forget(1), BAD);
      Given.due("clear(1)", x.clear(1), BAD);
      Given.due("errs(0)", x.errs(0), text.isEmpty() ? BAD : 31);
      Given.due("keep(0)", x.keep(0), 0);
    }
  }

  private static void faultOfTheLatest() {
    Given.sentence("fault(): The FAULT of the latest text(); 0");
    WeighedSelf x = new WeighedSelf();
    Given.due("fault() of no text", x.fault(), 0);
    String[] texts = {"!", "law", "law 3;", "law 1;law", "load 1 1 1 1 1 1", "", "!", "law 1;"};
    int[] faults = {1, 2, 3, 4, 5, 0, 1, 0};
    for (int i = 0; i < texts.length; i++) {
      Given.feed(x, texts[i]);
      Given.due("fault() ahead of text()", x.fault(), i == 0 ? 0 : faults[i - 1]);
      x.text();
      Given.due("fault() of " + texts[i], x.fault(), faults[i]);
      x.end(1);
      x.rule(9);
      Given.due("fault() is asked again", x.fault(), faults[i]);
    }
  }
}
