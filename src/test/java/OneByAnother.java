import java.util.ArrayList;
import java.util.List;
import java.util.NoSuchElementException;

/**
 * What one call answers follows from what others do: forecasts from acts really done, why() from a minute that
 * goes by, the past from the events, the text from what is printed. No second reading of the rules is needed here.
 */
public final class OneByAnother {
  private static final int NONE = -1, IN = 1, ON = 2, DONE = 3;

  private final Draw draw;
  private final String text;
  private final boolean care;
  /** The acts that succeeded: the number of the act, and what it was told. */
  private final List<int[]> acts = new ArrayList<>();
  private final int stations, trains;
  private int wrong;

  private OneByAnother(int seed) {
    draw = new Draw(seed);
    care = draw.coin();
    text = care ? draw.text() : draw.denseText();
    SidingLoops x = told(text);
    stations = x.many(0);
    trains = x.many(1);
    boolean stays = draw.pick(3) == 0;
    for (int i = draw.pick(25); i > 0; i--) act(x, stays);
  }

  public static void main(String[] args) {
    int runs = args.length > 0 ? Integer.parseInt(args[0]) : 300;
    int wrong = 0;
    for (int seed = 0; seed < runs && wrong == 0; seed++) {
      OneByAnother one = new OneByAnother(seed);
      one.everything();
      wrong += one.wrong;
      if (wrong > 0) System.out.println("run " + seed + ": " + one.text + "\n" + one.story());
    }
    System.out.println(wrong == 0 ? runs + " runs, all as due" : wrong + " not as due");
    if (wrong != 0) System.exit(1);
  }

  private void everything() {
    aheadByGoing();
    endsByGoing(true);
    endsByGoing(false);
    costByHolding();
    slackByHolding();
    bandByStarting();
    swapAndPlanByRanking();
    trackMoreByText();
    burdenByText();
    whyByGoing();
    weakByShutting();
    ringByWaiting();
    pastByEvents();
    textByPrinting();
  }

  // ---- objects that stand alike

  private static SidingLoops told(String text) {
    Check c = new Check();
    c.feed(text);
    c.x.load(text.length());
    return c.x;
  }

  /** A new object to which the same was told and done. */
  private SidingLoops stand() {
    SidingLoops x = told(text);
    for (int[] a : acts) perform(x, a);
    return x;
  }

  private static int perform(SidingLoops x, int[] a) {
    switch (a[0]) {
      case 0: return x.hold(a[1], a[2]);
      case 1: return x.shut(a[1], a[2], a[3] == 1);
      case 2: return x.rank(a[1]);
      case 3: return x.start(a[1], a[2]);
      case 4: return x.stall(a[1], a[2]);
      case 5: return x.link(a[1], a[2], a[3]);
      case 6: return x.cut(a[1]);
      default: return x.go(a[1], a[2] == 1);
    }
  }

  private void act(SidingLoops x, boolean stays) {
    int t = draw.pick(trains), u = draw.pick(trains), s = draw.pick(stations), n = draw.pick(8) == 0 ? 1 + draw.pick(60) : 1 + draw.pick(6);
    int[][] choice = {{0, t, n}, {1, s, draw.pick(3), draw.pick(2)}, {2, swapped(x, t, u)}, {3, t, draw.pick(30)}, {4, t, n}, {5, t, s, u}, {6, draw.pick(4)}, {7, n, care ? 1 : 0}};
    int which = draw.pick(14);
    int[] a = choice[which > 7 ? 7 : which];
    if (stays && a[0] == 7) return;
    perform(x, a);
    if (x.status() == 0) acts.add(a);
  }

  private String story() {
    StringBuilder b = new StringBuilder();
    String[] names = {"hold", "shut", "rank", "start", "stall", "link", "cut", "go"};
    for (int[] a : acts) {
      b.append(names[a[0]]);
      for (int i = 1; i < a.length; i++) b.append(' ').append(a[i]);
      b.append('\n');
    }
    return b.toString();
  }

  private void due(String call, int got, int want) {
    if (got != want) { wrong++; System.out.println(call + " answered " + got + ", due is " + want); }
  }

  private void due(String call, int got, int status, int want) {
    due(call, got, want);
    due("status() behind " + call, status, want == NONE ? 5 : 0);
  }

  private static int go(SidingLoops x, int n, boolean care) {
    for (int left = n; left > 0; left -= 99) x.go(Math.min(left, 99), care);
    return x.many(2);
  }

  private int[] order(SidingLoops x) {
    int[] order = new int[x.many(1)];
    for (int t = 0; t < order.length; t++) order[x.train(t, 13)] = t;
    return order;
  }

  private static int row(int[] order) {
    int row = 0;
    for (int t : order) row = 10 * row + t;
    return row;
  }

  private int swapped(SidingLoops x, int t, int u) {
    int[] order = order(x);
    order[x.train(t, 13)] = u;
    order[x.train(u, 13)] = t;
    return row(order);
  }

  private int count(SidingLoops x, int phase) {
    int n = 0;
    for (int t = 0; t < trains; t++) if (x.train(t, 6) == phase) n++;
    return n;
  }

  // ---- what would be, by doing it

  private void aheadByGoing() {
    SidingLoops x = stand(), y = stand();
    boolean careful = draw.coin();
    int n = draw.coin() ? draw.pick(100) : draw.pick(12);
    if (x.many(2) + n > 999) return;
    go(y, n, careful);
    int[] want = {y.many(3), y.many(5), y.many(7), y.many(8), count(y, ON), y.many(4)};
    for (int what = 0; what < 6; what++) due("ahead(" + n + ", " + careful + ", " + what + ")", x.ahead(n, careful, what), want[what]);
  }

  private void endsByGoing(boolean careful) {
    SidingLoops x = stand(), y = stand(), before = stand();
    int end = x.ends(careful, 1), minutes = end - x.many(2);
    if (end > 999) return;
    due("minutes to the end, at most 300", minutes >= 0 && minutes <= 300 ? 1 : 0, 1);
    go(y, minutes, careful);
    boolean over = y.many(3) == trains || y.many(8) == 1;
    due("over at " + end + ", or 300 minutes gone", over || minutes == 300 ? 1 : 0, 1);
    if (minutes > 0) {
      go(before, minutes - 1, careful);
      due("over ahead of " + end, before.many(3) == trains || before.many(8) == 1 ? 1 : 0, 0);
    }
    int use = 0;
    for (int k = 0; k < stations - 1; k++) use += y.use(k);
    int[] want = {y.many(5), end, y.many(3), y.many(8), use};
    for (int what = 0; what < 5; what++) due("ends(" + careful + ", " + what + ")", x.ends(careful, what), want[what]);
    if (!careful) return;
    for (int t = 0; t < trains; t++) {
      if (x.train(t, 6) != DONE) {
        int when = x.when(t);
        due("when(" + t + ")", when, x.status(), y.train(t, 6) == DONE ? y.time(t, y.train(t, 2), false) : NONE);
      }
    }
  }

  private void costByHolding() {
    SidingLoops x = stand(), y = stand();
    int now = x.ends(true, 0);
    for (int t = 0; t < trains; t++) {
      if (x.train(t, 6) == DONE) continue;
      int n = draw.coin() ? 1 + draw.pick(99) : 1 + draw.pick(9);
      y.hold(t, n);
      due("cost(" + t + ", " + n + ")", x.cost(t, n), y.ends(true, 0) - now);
      y.undo();
      due("ends(true, 0) behind undo()", y.ends(true, 0), now);
    }
  }

  private void slackByHolding() {
    SidingLoops x = stand(), y = stand();
    int t = draw.pick(trains);
    if (x.train(t, 6) == DONE || x.train(t, 12) != NONE) return;
    int now = x.ends(true, 0), n = 0;
    for (boolean more = true; more && n < 99; ) {
      y.hold(t, n + 1);
      more = y.ends(true, 0) <= now;
      if (more) n++;
    }
    due("slack(" + t + ")", x.slack(t), n);
  }

  private void bandByStarting() {
    SidingLoops x = stand();
    for (int t = 0; t < trains; t++) {
      if (x.train(t, 6) != 0) continue;
      SidingLoops y = stand();
      int best = NONE, least = 0;
      for (int minute = 0; minute <= 60; minute++) {
        y.start(t, minute);
        int price = y.ends(true, 0);
        if (best == NONE || price < least) { best = minute; least = price; }
      }
      due("band(" + t + ", false)", x.band(t, false), best);
      due("band(" + t + ", true)", x.band(t, true), least);
    }
  }

  private void swapAndPlanByRanking() {
    SidingLoops x = stand(), y = stand();
    int now = x.ends(true, 0);
    for (int t = 0; t < trains; t++) {
      for (int u = 0; u < trains; u++) {
        if (t == u) continue;
        y.rank(swapped(x, t, u));
        due("swap(" + t + ", " + u + ")", x.swap(t, u), now - y.ends(true, 0));
      }
    }
    List<Integer> rows = new ArrayList<>();
    allRows(0, 0, rows);
    SidingLoops z = stand();
    int best = NONE, least = 0;
    for (int row : rows) {
      z.rank(row);
      int price = z.ends(true, 0);
      if (best == NONE || price < least) { best = row; least = price; }
    }
    due("plan(NONE)", x.plan(NONE), least);
    int row = 0;
    for (int k = 0; k < trains; k++) row = 10 * row + x.plan(k);
    due("plan, as a row", row, best);
  }

  /** All ranks as rows of digits, the least first. */
  private void allRows(int row, int used, List<Integer> rows) {
    if (used == (1 << trains) - 1) { rows.add(row); return; }
    for (int t = 0; t < trains; t++) if ((used >> t & 1) == 0) allRows(10 * row + t, used | 1 << t, rows);
  }

  // ---- what would be, by another text (in minute 0, in which there is no past)

  private static final int NOBODY = 99;

  /** An object with another text, told what this one was told by acts; one train may be left out of it. */
  private SidingLoops likewise(SidingLoops x, String other, int without) {
    SidingLoops y = told(other);
    for (int s = 0; s < stations; s++) for (int k = 0; k < x.station(s, 1); k++) if (x.track(s, k, 2) == 1) y.shut(s, k, true);
    int row = 0;
    for (int t : order(x)) if (t != without) row = 10 * row + (t > without ? t - 1 : t);
    y.rank(row);
    for (int t = 0; t < trains; t++) {
      int number = t > without ? t - 1 : t;
      if (t == without) continue;
      y.start(number, x.train(t, 3));
      if (x.train(t, 12) != NONE) y.hold(number, x.train(t, 12));
    }
    int links = x.links(NONE, 0);
    for (int k = 0; k < links; k++) {
      int a = x.links(k, 0), b = x.links(k, 2);
      if (a != without && b != without) y.link(a > without ? a - 1 : a, x.links(k, 1), b > without ? b - 1 : b);
    }
    return y;
  }

  /** Where the k-th line that begins with a word begins. */
  private int lineAt(String word, int k) {
    int at = text.indexOf(word);
    for (int i = 0; i < k; i++) at = text.indexOf(word, at + 1);
    return at;
  }

  private void trackMoreByText() {
    SidingLoops x = stand();
    if (x.many(2) > 0) return;
    int now = x.ends(true, 0), best = NONE, least = 0;
    for (int s = 0; s < stations; s++) {
      if (x.station(s, 1) == 3) continue;
      for (int length : new int[] {5 + draw.pick(30), 99}) {
        int end = text.indexOf(';', lineAt("station ", s));
        int price = likewise(x, text.substring(0, end) + " " + length + text.substring(end), NOBODY).ends(true, 0);
        due("loop(" + s + ", " + length + ")", x.loop(s, length), now - price);
        if (length == 99 && (best == NONE || price < least)) { best = s; least = price; }
      }
    }
    int build = x.build();
    due("build()", build, x.status(), best);
  }

  private void burdenByText() {
    SidingLoops x = stand();
    if (x.many(2) > 0) return;
    int best = NONE, least = 0;
    for (int t = 0; t < trains; t++) {
      int at = lineAt("train ", t), end = text.indexOf(';', at);
      int price = likewise(x, text.substring(0, at) + text.substring(end + 1), t).ends(true, 0);
      if (best == NONE || price < least) { best = t; least = price; }
    }
    due("burden(false)", x.burden(false), best);
    due("burden(true)", x.burden(true), least);
  }

  // ---- what there is

  /** Lets one train have a minute of its own: all others are HELD. */
  private void whyByGoing() {
    SidingLoops x = stand();
    int risks = 0;
    for (int t = 0; t < trains; t++) {
      int why = x.why(t), phase = x.train(t, 6);
      if (why == 5) risks |= 1 << t;
      due("why(" + t + ") is 1: DONE", why == 1 ? 1 : 0, phase == DONE ? 1 : 0);
      due("why(" + t + ") is 2: ON", why == 2 ? 1 : 0, phase == ON ? 1 : 0);
      if (why == 1 || why == 2 || x.train(t, 12) != NONE || isKept(x, t) || anyArrives(x)) continue;
      for (boolean careful : new boolean[] {false, true}) {
        SidingLoops y = stand();
        for (int u = 0; u < trains; u++) if (u != t && y.train(u, 6) != DONE) y.hold(u, 1);
        if (phase == 0) y.start(t, 0);
        y.go(1, careful);
        boolean moved = y.train(t, 6) != phase;
        due("why(" + t + ") = " + why + ", it moved" + (careful ? " with care" : ""), moved ? 1 : 0, why == 0 || why == 5 && !careful ? 1 : 0);
        if (moved) due("SAFE behind a move of " + t, y.many(7), why == 0 ? 1 : 0);
      }
    }
    due("risks()", x.risks(), risks);
  }

  private static boolean isKept(SidingLoops x, int t) {
    int links = x.links(NONE, 0);
    for (int k = 0; k < links; k++) if (x.links(k, 0) == t && x.links(k, 3) == 1) return true;
    return false;
  }

  private boolean anyArrives(SidingLoops x) {
    for (int t = 0; t < trains; t++) if (x.train(t, 9) == 0) return true;
    return false;
  }

  private void weakByShutting() {
    SidingLoops x = stand(), y = stand();
    for (int s = 0; s < stations; s++) {
      int bits = 0;
      for (int k = 0; k < y.station(s, 1); k++) {
        if (y.track(s, k, 2) == 1) continue;
        y.shut(s, k, true);
        if (y.many(7) == 0) bits |= 1 << k;
        y.shut(s, k, false);
      }
      int weak = x.weak(s);
      due("weak(" + s + ")", weak, x.status(), x.many(7) == 1 ? bits : NONE);
    }
  }

  private void ringByWaiting() {
    SidingLoops x = stand();
    int[] waits = new int[trains];
    for (int t = 0; t < trains; t++) {
      int why = x.why(t), at = x.train(t, 7), towards = x.train(t, 2);
      int want = NONE;
      if (x.train(t, 6) == IN && why == 4) want = 1 << x.section(at < towards ? at : at - 1);
      if (x.train(t, 6) == IN && why == 3) {
        want = 0;
        int next = at < towards ? at + 1 : at - 1;
        for (int k = 0; k < x.station(next, 1); k++) {
          int there = x.track(next, k, 1);
          if (there != NONE && x.track(next, k, 0) >= x.train(t, 0)) want |= 1 << there;
        }
      }
      int blocks = x.blocks(t);
      due("blocks(" + t + ")", blocks, x.status(), want);
      waits[t] = Math.max(want, 0);
    }
    int ring = 0;
    for (int t = 0; t < trains; t++) if (reaches(waits, t, t, 0)) ring |= 1 << t;
    due("ring()", x.ring(), ring);
  }

  private boolean reaches(int[] waits, int from, int to, int seen) {
    for (int u = 0; u < trains; u++) {
      if ((waits[from] >> u & 1) == 0) continue;
      if (u == to || (seen >> u & 1) == 0 && reaches(waits, u, to, seen | 1 << u)) return true;
    }
    return false;
  }

  // ---- what was

  private static final int OUTSIDE = -1, RIDING = 10;

  /** Each train's place at the end of each minute: a station, RIDING and a section, or OUTSIDE. */
  private int[][] places(SidingLoops x) {
    int now = x.many(2), events = x.event(NONE, 0);
    int[][] places = new int[now][trains];
    int[] place = new int[trains];
    java.util.Arrays.fill(place, OUTSIDE);
    int k = 0;
    for (int minute = 0; minute < now; minute++) {
      for (; k < events && x.event(k, 2) == minute; k++) {
        int t = x.event(k, 0), kind = x.event(k, 1), s = x.event(k, 3), to = x.train(t, 2);
        if (kind == 1) place[t] = RIDING + (to > s ? s : s - 1);
        else place[t] = s == to ? OUTSIDE : s;
      }
      places[minute] = place.clone();
    }
    due("events of minutes that are gone", k, events);
    return places;
  }

  private void pastByEvents() {
    SidingLoops x = stand(), y = stand();
    int[][] places = places(y);
    for (int s = 0; s < stations; s++) {
      due("stood(" + s + ")", x.stood(s), times(places, s, NONE));
      if (s < stations - 1) due("use(" + s + ")", x.use(s), times(places, RIDING + s, NONE));
    }
    for (int t = 0; t < trains; t++) {
      int waits = 0;
      for (int s = 0; s < stations; s++) waits += times(places, s, t);
      due("waits(" + t + ")", x.waits(t), waits);
      for (int u = 0; u < trains; u++) if (t != u) together(x, places, t, u);
    }
    timesByEvents(stand(), stand());
    goneByEvents(stand(), stand());
  }

  private int times(int[][] places, int place, int train) {
    int n = 0;
    for (int[] minute : places) for (int t = 0; t < trains; t++) if (minute[t] == place && (train == NONE || train == t)) n++;
    return n;
  }

  private void together(SidingLoops x, int[][] places, int t, int u) {
    int first = NONE, bits = 0;
    for (int minute = 0; minute < places.length; minute++) {
      int s = places[minute][t];
      if (s < 0 || s >= RIDING || s != places[minute][u]) continue;
      if (first == NONE) first = minute;
      bits |= 1 << s;
    }
    int where = x.together(t, u, false);
    due("together(" + t + ", " + u + ", false)", where, x.status(), first == NONE ? NONE : places[first][t]);
    int when = x.together(t, u, true);
    due("together(" + t + ", " + u + ", true)", when, x.status(), first);
    due("passes(" + t + ", " + u + ")", x.passes(t, u), Integer.bitCount(bits));
  }

  private void timesByEvents(SidingLoops x, SidingLoops y) {
    int[][] came = new int[trains][stations], left = new int[trains][stations];
    for (int[] row : came) java.util.Arrays.fill(row, NONE);
    for (int[] row : left) java.util.Arrays.fill(row, NONE);
    int events = y.event(NONE, 0);
    for (int k = 0; k < events; k++) (y.event(k, 1) == 1 ? left : came)[y.event(k, 0)][y.event(k, 3)] = y.event(k, 2);
    for (int t = 0; t < trains; t++) {
      int start = x.train(t, 3), slow = x.train(t, 4), from = x.train(t, 1), to = x.train(t, 2);
      for (int s = 0; s < stations; s++) {
        int in = x.time(t, s, false);
        due("time(" + t + ", " + s + ", false)", in, x.status(), came[t][s]);
        int out = x.time(t, s, true);
        due("time(" + t + ", " + s + ", true)", out, x.status(), left[t][s]);
      }
      int alone = start;
      for (int s = from; ; ) {
        int late = x.late(t, s);
        due("late(" + t + ", " + s + ")", late, x.status(), came[t][s] == NONE ? NONE : came[t][s] - alone);
        if (s == to) break;
        if (s == from) alone++;
        int next = to > s ? s + 1 : s - 1, run = x.station(Math.max(s, next), 0);
        for (int half = run * (2 + slow); half > 0; half -= 2) alone++;
        s = next;
      }
      if (x.train(t, 6) == DONE) due("DELAY of " + t + " is one more than it is late", x.train(t, 11), x.late(t, to) + 1);
    }
  }

  private void goneByEvents(SidingLoops x, SidingLoops y) {
    int events = y.event(NONE, 0);
    int[] gone = new int[7];
    for (int k = 0; k < events; k++) {
      if (y.event(k, 1) != 1) continue;
      int t = y.event(k, 0), s = y.event(k, 3), section = y.train(t, 2) > s ? s : s - 1;
      due("gone(" + section + ", " + gone[section] + ")", x.gone(section, gone[section]), t);
      gone[section]++;
    }
    for (int s = 0; s < stations - 1; s++) due("gone(" + s + ", NONE)", x.gone(s, NONE), gone[s]);
  }

  // ---- what is told

  private static String printed(SidingLoops x) {
    StringBuilder b = new StringBuilder();
    int bytes = x.print();
    for (int i = 0; i < bytes; i++) b.append((char) x.out(i));
    try { b.append(x.out(bytes)); } catch (NoSuchElementException e) { return b.toString(); }
    return "too long: " + b;
  }

  private void textByPrinting() {
    SidingLoops x = stand();
    String text = printed(x);
    SidingLoops y = told(text);
    due("trains of what is printed", y.many(1), trains);
    due("stations of what is printed", y.many(0), stations);
    for (int t = 0; t < trains; t++) {
      for (int what : new int[] {0, 1, 2, 3, 4, 5, 10}) due("train(" + t + ", " + what + ")", y.train(t, what), x.train(t, what));
    }
    for (int s = 0; s < stations; s++) {
      for (int what : new int[] {0, 1, 4}) due("station(" + s + ", " + what + ")", y.station(s, what), x.station(s, what));
    }
    due("printed again, alike", printed(y).equals(text) ? 1 : 0, 1);
  }
}
