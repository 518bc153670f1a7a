import java.util.ArrayList;
import java.util.List;

/**
 * All that can be learned of an object: its numbers, then what its sheets, images and tape hold, which is asked by
 * calls that change it, so an object that was looked at is of no more use. Some 270 calls.
 */
final class Look {
  private final List<String> found = new ArrayList<>();
  private final WeighedSelf x;

  private Look(WeighedSelf x) { this.x = x; }

  static List<String> at(WeighedSelf x) {
    Look look = new Look(x);
    look.world("now");
    look.notes();
    look.sheets();
    look.world("behind the sheets");
    for (int k = 0; k < 2; k++) {
      look.note("back(" + k + ")", x.back(k));
      look.world("image " + k);
    }
    look.tape();
    return look.found;
  }

  private void note(String what, int answer) { found.add(what + " " + answer); }

  private void world(String when) {
    for (int what = 0; what < 4; what++) note(when + " rule " + what, x.rule(what));
    for (int p = 0; p < 4; p++) {
      for (int what = 0; what < 7; what++) note(when + " one " + p + " " + what, x.one(p, what));
    }
    for (int f = 0; f < 3; f++) {
      for (int what = 0; what < 2; what++) note(when + " frontier " + f + " " + what, x.frontier(f, what));
    }
    for (int i = 0; i < 5; i++) note(when + " load " + i, x.load(i));
  }

  private void notes() {
    for (int what = 0; what < 6; what++) note("count " + what, x.count(what));
    note("fault", x.fault());
    note("torn", x.torn());
    for (int f = 0; f < 3; f++) note("errs " + f, x.errs(f));
    note("whose 0", x.whose(0));
    for (int k = 0; k < 4; k++) {
      note("whose 1" + k, x.whose(10 + k));
      note("whose 2" + k, x.whose(20 + k));
    }
  }

  private void sheets() {
    for (int k = 0; k < 4; k++) {
      for (int lane = 0; lane < 3; lane++) {
        note("read " + k + " as of " + lane, x.read(k, lane, 0, 20));
        note("torn", x.torn());
      }
    }
  }

  private void tape() {
    note("text", x.text());
    note("fault", x.fault());
    for (int what = 0; what < 6; what++) note("count behind the text " + what, x.count(what));
    world("behind the text");
  }
}
