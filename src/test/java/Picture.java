import java.util.ArrayList;
import java.util.List;
import java.util.NoSuchElementException;

/**
 * What an object answers to all that can be asked of it, in one row: two objects whose rows are alike stand alike.
 * One row takes some 330 calls, so that an object of at most three stations and three trains has one taken once.
 */
final class Picture {
  private final SidingLoops x;
  private final List<String> row = new ArrayList<>();

  private Picture(SidingLoops x) { this.x = x; }

  static List<String> of(SidingLoops x) {
    Picture p = new Picture(x);
    p.out();
    p.present();
    p.past();
    p.future();
    p.text();
    return p.row;
  }

  /** The first place at which two rows differ, or nothing. */
  static String difference(List<String> a, List<String> b) {
    for (int i = 0; i < a.size() || i < b.size(); i++) {
      String left = i < a.size() ? a.get(i) : "nothing", right = i < b.size() ? b.get(i) : "nothing";
      if (!left.equals(right)) return left + ", but was " + right;
    }
    return "";
  }

  private void note(String call, int got) { row.add(call + " = " + got + (got == -1 ? " status " + x.status() : "")); }

  private void out() {
    int n = 0;
    for (boolean more = true; more && n < 30; n++) {
      try { row.add("out(" + n + ") = " + x.out(n)); } catch (NoSuchElementException e) { more = false; }
    }
    row.add("fault = " + x.fault(0) + " at " + x.fault(1));
  }

  private void present() {
    for (int what = 0; what < 10; what++) note("many(" + what + ")", x.many(what));
    int stations = x.many(0), trains = x.many(1);
    for (int s = 0; s < stations; s++) {
      for (int what = 0; what < 5; what++) note("station(" + s + ", " + what + ")", x.station(s, what));
      int tracks = x.station(s, 1);
      for (int k = 0; k < tracks; k++) for (int what = 0; what < 3; what++) note("track(" + s + ", " + k + ", " + what + ")", x.track(s, k, what));
    }
    for (int t = 0; t < trains; t++) {
      for (int what = 0; what < 14; what++) note("train(" + t + ", " + what + ")", x.train(t, what));
      note("why(" + t + ")", x.why(t));
    }
    int through = x.through(-1), links = x.links(-1, 0);
    for (int k = -1; k < through; k++) note("through(" + k + ")", x.through(k));
    for (int k = 0; k < links; k++) for (int what = 0; what < 4; what++) note("links(" + k + ", " + what + ")", x.links(k, what));
    for (int k = 0; k < stations - 1; k++) note("section(" + k + ")", x.section(k));
  }

  private void past() {
    int stations = x.many(0), trains = x.many(1);
    for (int t = 0; t < trains; t++) {
      for (int s = 0; s < stations; s++) {
        note("came(" + t + ", " + s + ")", x.time(t, s, false));
        note("left(" + t + ", " + s + ")", x.time(t, s, true));
      }
      for (int u = t + 1; u < trains; u++) {
        note("together(" + t + ", " + u + ", false)", x.together(t, u, false));
        note("together(" + t + ", " + u + ", true)", x.together(t, u, true));
        note("passes(" + t + ", " + u + ")", x.passes(t, u));
      }
      note("waits(" + t + ")", x.waits(t));
    }
    for (int s = 0; s < stations; s++) note("stood(" + s + ")", x.stood(s));
    int events = x.event(-1, 0);
    for (int k = 0; k < events; k++) for (int what = 0; what < 4; what++) note("event(" + k + ", " + what + ")", x.event(k, what));
    for (int s = 0; s < stations - 1; s++) {
      note("use(" + s + ")", x.use(s));
      int gone = x.gone(s, -1);
      for (int k = -1; k < gone; k++) note("gone(" + s + ", " + k + ")", x.gone(s, k));
    }
  }

  private void future() {
    for (int what = 0; what < 5; what++) note("ends(true, " + what + ")", x.ends(true, what));
    for (int what = 0; what < 5; what++) note("ends(false, " + what + ")", x.ends(false, what));
    note("plan(-1)", x.plan(-1));
  }

  private void text() {
    note("print()", x.print());
    // the tape: how much is on it shows once more comes
    row.add("feed = " + x.feed(0, 0, 0, 0, 0));
  }
}
