import java.util.List;

/**
 * Terms, 4, over all calls: a refused one gives NONE and its STATUS and changes nothing else; one that only asks changes
 * nothing; an act undone leaves nothing behind; a text read leaves nothing of what was. What "nothing" is, Picture tells.
 */
public final class RefusedCalls {
  private static final int MIN = Integer.MIN_VALUE, MAX = Integer.MAX_VALUE;
  /** x and y follow each other, z comes towards them. */
  private static final String LINE = "station a 0 9 9;station b 2 9 9;station c 2 9 9 8;train x 5 a c 0;train y 5 a c 0;train z 5 c a 1 weight 2;";
  /** As many stations and trains as there can be. */
  private static final String FULL = "station a 0 9 9 9;station b 1 9;station c 1 9;station d 1 9;station e 1 9;station f 1 9;station g 1 9;"
      + "train k 5 a g 0;train l 5 g a 0;train m 5 b c 9;train n 5 d e 99;train o 5 c b 99;";

  private interface Call { int of(SidingLoops x); }

  public static void main(String[] args) {
    numbersThatCantBe();
    noSuch();
    oneTooMany();
    soAlready();
    thereIsNone();
    faults();
    outThrows();
    nothingThere();
    wildNumbers();
    askingChangesNothing();
    actsUndone();
    readingForgets();
    lastCalls();
    Check.end();
  }

  /** One is in b and held, one in a and kept by a link, one on its last section; a track is shut; OUT, the tape and UNDO hold something. */
  private static Check busy() {
    Check c = new Check();
    c.feed(LINE);
    c.x.load(LINE.length());
    c.x.print();
    c.x.go(3, true);
    c.x.hold(0, 7);
    c.x.link(1, 0, 2);
    c.x.link(2, 1, 0);
    c.x.go(3, true);
    c.x.shut(2, 2, true);
    c.x.rank(102);
    c.x.feed(0, 0, 0, 0, 0);
    return c;
  }

  private static final List<String> BUSY = Picture.of(busy().x);

  private static void refused(int status, String call, Call it) {
    Check c = busy();
    c.refuses(call, it.of(c.x), status);
    String difference = Picture.difference(BUSY, Picture.of(c.x));
    if (!difference.isEmpty()) c.due(call + " changed something: " + difference, 1, 0);
  }

  private static void numbersThatCantBe() {
    Check.promise(4); refused(1, "load(-1)", x -> x.load(-1)); refused(1, "load(21)", x -> x.load(21));
    Check.promise(6); refused(1, "many(-1)", x -> x.many(-1)); refused(1, "many(10)", x -> x.many(10));
    Check.promise(7); refused(1, "station(0, -1)", x -> x.station(0, -1)); refused(1, "station(9, 5)", x -> x.station(9, 5));
    Check.promise(8); refused(1, "track(0, 0, -1)", x -> x.track(0, 0, -1)); refused(1, "track(0, 9, 3)", x -> x.track(0, 9, 3));
    Check.promise(9); refused(1, "train(0, -1)", x -> x.train(0, -1)); refused(1, "train(9, 14)", x -> x.train(9, 14));
    Check.promise(12); refused(1, "through(-2)", x -> x.through(-2));
    Check.promise(15); refused(1, "links(-2, 0)", x -> x.links(-2, 0)); refused(1, "links(0, 4)", x -> x.links(0, 4)); refused(1, "links(-1, 3)", x -> x.links(-1, 3));
    Check.promise(24); refused(1, "event(-2, 0)", x -> x.event(-2, 0)); refused(1, "event(0, 4)", x -> x.event(0, 4)); refused(1, "event(-1, 2)", x -> x.event(-1, 2));
    Check.promise(26); refused(1, "gone(0, -2)", x -> x.gone(0, -2)); refused(1, "gone(9, -2)", x -> x.gone(9, -2));
    Check.promise(28);
    refused(1, "ahead(-1, true, 0)", x -> x.ahead(-1, true, 0)); refused(1, "ahead(100, true, 0)", x -> x.ahead(100, true, 0));
    refused(1, "ahead(0, true, -1)", x -> x.ahead(0, true, -1)); refused(1, "ahead(0, false, 6)", x -> x.ahead(0, false, 6));
    Check.promise(29); refused(1, "ends(true, -1)", x -> x.ends(true, -1)); refused(1, "ends(false, 5)", x -> x.ends(false, 5));
    Check.promise(31); refused(1, "plan(-2)", x -> x.plan(-2));
    Check.promise(32); refused(1, "cost(0, 0)", x -> x.cost(0, 0)); refused(1, "cost(9, 100)", x -> x.cost(9, 100));
    Check.promise(37); refused(1, "loop(0, 0)", x -> x.loop(0, 0)); refused(1, "loop(9, 100)", x -> x.loop(9, 100));
    Check.promise(39); refused(1, "go(0, true)", x -> x.go(0, true)); refused(1, "go(100, true)", x -> x.go(100, true)); refused(1, "go(-1, false)", x -> x.go(-1, false));
    Check.promise(40); refused(1, "hold(0, 0)", x -> x.hold(0, 0)); refused(1, "hold(9, 100)", x -> x.hold(9, 100));
    Check.promise(42);
    refused(1, "rank(101)", x -> x.rank(101)); refused(1, "rank(103)", x -> x.rank(103)); refused(1, "rank(1012)", x -> x.rank(1012)); refused(1, "rank(-12)", x -> x.rank(-12));
    Check.promise(43); refused(1, "start(0, -1)", x -> x.start(0, -1)); refused(1, "start(9, 200)", x -> x.start(9, 200));
    Check.promise(44); refused(1, "stall(0, 0)", x -> x.stall(0, 0)); refused(1, "stall(9, 100)", x -> x.stall(9, 100));
    Check.promise(46); refused(1, "cut(-1)", x -> x.cut(-1));
  }

  private static void noSuch() {
    for (int t : new int[] {-1, 3, MIN, MAX}) {
      Check.promise(9); refused(2, "train(" + t + ", 0)", x -> x.train(t, 0));
      Check.promise(10); refused(2, "fits(" + t + ")", x -> x.fits(t));
      Check.promise(11); refused(2, "why(" + t + ")", x -> x.why(t));
      Check.promise(16); refused(2, "blocks(" + t + ")", x -> x.blocks(t));
      Check.promise(19); refused(2, "time(" + t + ", 0, false)", x -> x.time(t, 0, false));
      Check.promise(20); refused(2, "together(" + t + ", 0, true)", x -> x.together(t, 0, true)); refused(2, "together(0, " + t + ", true)", x -> x.together(0, t, true));
      refused(2, "together(" + t + ", " + t + ", false): ahead of 4", x -> x.together(t, t, false));
      Check.promise(21); refused(2, "passes(" + t + ", 0)", x -> x.passes(t, 0)); refused(2, "passes(0, " + t + ")", x -> x.passes(0, t));
      refused(2, "passes(" + t + ", " + t + "): ahead of 4", x -> x.passes(t, t));
      Check.promise(23); refused(2, "late(" + t + ", 0)", x -> x.late(t, 0));
      Check.promise(27); refused(2, "waits(" + t + ")", x -> x.waits(t));
      Check.promise(30); refused(2, "when(" + t + ")", x -> x.when(t));
      Check.promise(32); refused(2, "cost(" + t + ", 1)", x -> x.cost(t, 1));
      Check.promise(33); refused(2, "slack(" + t + ")", x -> x.slack(t));
      Check.promise(34); refused(2, "band(" + t + ", true)", x -> x.band(t, true));
      Check.promise(35); refused(2, "swap(" + t + ", 0)", x -> x.swap(t, 0)); refused(2, "swap(0, " + t + ")", x -> x.swap(0, t));
      refused(2, "swap(" + t + ", " + t + "): ahead of 4", x -> x.swap(t, t));
      Check.promise(40); refused(2, "hold(" + t + ", 1)", x -> x.hold(t, 1));
      Check.promise(43); refused(2, "start(" + t + ", 0)", x -> x.start(t, 0));
      Check.promise(44); refused(2, "stall(" + t + ", 1)", x -> x.stall(t, 1));
      Check.promise(45); refused(2, "link(" + t + ", 0, 1)", x -> x.link(t, 0, 1)); refused(2, "link(1, 0, " + t + ")", x -> x.link(1, 0, t));
      refused(2, "link(" + t + ", 0, " + t + "): ahead of 4", x -> x.link(t, 0, t));
    }
    for (int s : new int[] {-1, 3, MIN, MAX}) {
      Check.promise(7); refused(2, "station(" + s + ", 0)", x -> x.station(s, 0));
      Check.promise(8); refused(2, "track(" + s + ", 0, 0)", x -> x.track(s, 0, 0));
      Check.promise(14); refused(2, "weak(" + s + ")", x -> x.weak(s));
      Check.promise(19); refused(2, "time(0, " + s + ", true)", x -> x.time(0, s, true));
      Check.promise(22); refused(2, "stood(" + s + ")", x -> x.stood(s));
      Check.promise(23); refused(2, "late(0, " + s + ")", x -> x.late(0, s));
      Check.promise(37); refused(2, "loop(" + s + ", 1)", x -> x.loop(s, 1));
      Check.promise(41); refused(2, "shut(" + s + ", 0, true)", x -> x.shut(s, 0, true));
      Check.promise(45); refused(2, "link(0, " + s + ", 1)", x -> x.link(0, s, 1)); refused(2, "link(0, " + s + ", 0): ahead of 4", x -> x.link(0, s, 0));
    }
    for (int k : new int[] {-1, 2, MIN, MAX}) {
      Check.promise(8); refused(2, "track(0, " + k + ", 1)", x -> x.track(0, k, 1)); // a and b have two tracks
      Check.promise(18); refused(2, "section(" + k + ")", x -> x.section(k));
      Check.promise(25); refused(2, "use(" + k + ")", x -> x.use(k));
      Check.promise(26); refused(2, "gone(" + k + ", -1)", x -> x.gone(k, -1)); refused(2, "gone(" + k + ", 99): ahead of 5", x -> x.gone(k, 99));
      Check.promise(41); refused(2, "shut(1, " + k + ", false)", x -> x.shut(1, k, false));
    }
    Check.promise(8); refused(2, "track(2, 3, 0)", x -> x.track(2, 3, 0));
    Check.promise(41); refused(2, "shut(2, 3, true)", x -> x.shut(2, 3, true));
  }

  private static void oneTooMany() {
    Check.promise(37); refused(3, "loop(2, 9)", x -> x.loop(2, 9));
    Check.promise(39);
    Check c = new Check(LINE);
    for (int i = 0; i < 10; i++) c.x.go(99, true);
    c.refuses("go(10, true)", c.x.go(10, true), 3);
    c.answers("many(2)", c.x.many(2), 990);
    c.answers("many(6)", c.x.many(6), 10);
    c.answers("undo()", c.x.undo(), 9);
    c.answers("many(2)", c.x.many(2), 891);
    Check.promise(45);
    Check d = busy();
    d.answers("link(0, 0, 1)", d.x.link(0, 0, 1), 2);
    d.answers("link(0, 0, 2)", d.x.link(0, 0, 2), 3);
    d.refuses("link(0, 1, 2)", d.x.link(0, 1, 2), 3);
    d.refuses("link(1, 0, 2): 4 ahead of 3", d.x.link(1, 0, 2), 4);
    d.refuses("link(3, 0, 2): 2 ahead of 3", d.x.link(3, 0, 2), 2);
    d.answers("links(-1, 0)", d.x.links(-1, 0), 4);
    d.answers("cut(0)", d.x.cut(0), 3);
    d.answers("link(0, 1, 2): one is gone", d.x.link(0, 1, 2), 3);
  }

  private static void soAlready() {
    Check.promise(20); refused(4, "together(1, 1, true)", x -> x.together(1, 1, true));
    Check.promise(21); refused(4, "passes(2, 2)", x -> x.passes(2, 2));
    Check.promise(35); refused(4, "swap(0, 0)", x -> x.swap(0, 0));
    Check.promise(41); refused(4, "shut(2, 2, true)", x -> x.shut(2, 2, true)); refused(4, "shut(0, 0, false)", x -> x.shut(0, 0, false));
    Check.promise(42); refused(4, "rank(102)", x -> x.rank(102));
    Check.promise(43); refused(4, "start(2, 1)", x -> x.start(2, 1));
    Check.promise(45);
    refused(4, "link(1, 1, 1)", x -> x.link(1, 1, 1));
    refused(4, "link(1, 0, 2): the first one", x -> x.link(1, 0, 2));
    refused(4, "link(2, 1, 0): the second one", x -> x.link(2, 1, 0));
    for (int t = 0; t < 3; t++) {
      int done = t;
      Check.promise(30); whenDone(4, "when(" + t + ")", x -> x.when(done));
      Check.promise(32); whenDone(4, "cost(" + t + ", 1)", x -> x.cost(done, 1));
      Check.promise(33); whenDone(4, "slack(" + t + ")", x -> x.slack(done));
      Check.promise(40); whenDone(4, "hold(" + t + ", 1)", x -> x.hold(done, 1));
      Check.promise(34); whenDone(5, "band(" + t + ", false)", x -> x.band(done, false));
      Check.promise(43); whenDone(5, "start(" + t + ", 9)", x -> x.start(done, 9));
      Check.promise(44); whenDone(5, "stall(" + t + ", 1)", x -> x.stall(done, 1));
      Check.promise(16); whenDone(5, "blocks(" + t + ")", x -> x.blocks(done));
    }
  }

  private static void whenDone(int status, String call, Call it) {
    Check c = new Check(LINE);
    c.x.go(99, true);
    c.due("many(3)", c.x.many(3), 3);
    c.refuses(call + ": it is DONE", it.of(c.x), status);
    c.answers("many(6)", c.x.many(6), 1);
  }

  private static void thereIsNone() {
    // at minute 6 x is in b and held, y in a and linked, z on the way from b to a
    Check.promise(8); refused(5, "track(0, 0, 1)", x -> x.track(0, 0, 1));
    Check.promise(9); refused(5, "train(0, 9)", x -> x.train(0, 9)); refused(5, "train(0, 11)", x -> x.train(0, 11)); refused(5, "train(1, 12)", x -> x.train(1, 12));
    Check.promise(12); refused(5, "through(9)", x -> x.through(9)); refused(5, "through(MAX)", x -> x.through(MAX));
    Check.promise(15); refused(5, "links(2, 0)", x -> x.links(2, 0)); refused(5, "links(MAX, 3)", x -> x.links(MAX, 3));
    Check.promise(19); refused(5, "time(0, 1, true)", x -> x.time(0, 1, true)); refused(5, "time(0, 2, false)", x -> x.time(0, 2, false));
    Check.promise(23); refused(5, "late(0, 2)", x -> x.late(0, 2));
    Check.promise(24); refused(5, "event(99, 0)", x -> x.event(99, 0)); refused(5, "event(MAX, 3)", x -> x.event(MAX, 3));
    Check.promise(26); refused(5, "gone(0, 9)", x -> x.gone(0, 9)); refused(5, "gone(0, MAX)", x -> x.gone(0, MAX));
    Check.promise(31); refused(5, "plan(3)", x -> x.plan(3)); refused(5, "plan(MAX)", x -> x.plan(MAX));
    Check.promise(34); refused(5, "band(0, false)", x -> x.band(0, false)); refused(5, "band(0, true)", x -> x.band(0, true));
    Check.promise(43); refused(5, "start(0, 9)", x -> x.start(0, 9));
    Check.promise(44); refused(5, "stall(0, 9)", x -> x.stall(0, 9));
    Check.promise(46); refused(5, "cut(2)", x -> x.cut(2)); refused(5, "cut(MAX)", x -> x.cut(MAX));
  }

  /** A text with a fault empties the tape and is told by fault(); all else stays. */
  private static void faults() {
    Check.promise(4);
    Check plain = busy(), c = busy();
    c.refuses("load(20)", c.x.load(20), 9);
    List<String> before = Picture.of(plain.x), after = Picture.of(c.x);
    int differences = 0;
    for (int i = 0; i < before.size() && i < after.size(); i++) if (!before.get(i).equals(after.get(i))) differences++;
    c.due("rows as long", after.size(), before.size());
    c.due("fault() and feed() alone differ", differences, 2);
    c.due("fault()", after.contains("fault = 1 at 0") ? 1 : 0, 1);
    c.due("feed()", after.contains("feed = 20") ? 1 : 0, 1);
    Check d = busy();
    d.x.load(20);
    d.answers("undo() goes on", d.x.undo(), 6);
  }

  private static void outThrows() {
    Check.promise(49);
    for (int i : new int[] {-1, MIN, 999, MAX}) {
      Check c = busy();
      int thrown = 0;
      try { c.x.out(i); } catch (java.util.NoSuchElementException e) { thrown = 1; }
      c.due("out(" + i + ") throws", thrown, 1);
      String difference = Picture.difference(BUSY, Picture.of(c.x));
      if (!difference.isEmpty()) c.due("out(" + i + ") changed something: " + difference, 1, 0);
    }
  }

  /** A new object has no station, train, section, link, event, act: each call that asks for one is refused. */
  private static void nothingThere() {
    Check.promise(1);
    SidingLoops x = new SidingLoops();
    Check c = new Check();
    c.x = x;
    c.refuses("station(0, 0)", x.station(0, 0), 2);
    c.refuses("track(0, 0, 0)", x.track(0, 0, 0), 2);
    c.refuses("train(0, 0)", x.train(0, 0), 2);
    c.refuses("fits(0)", x.fits(0), 2);
    c.refuses("why(0)", x.why(0), 2);
    c.answers("through(-1)", x.through(-1), 0);
    c.refuses("through(0)", x.through(0), 5);
    c.answers("risks()", x.risks(), 0);
    c.refuses("weak(0)", x.weak(0), 2);
    c.answers("links(-1, 0)", x.links(-1, 0), 0);
    c.refuses("links(0, 0)", x.links(0, 0), 5);
    c.refuses("blocks(0)", x.blocks(0), 2);
    c.answers("ring()", x.ring(), 0);
    c.refuses("section(0)", x.section(0), 2);
    c.refuses("section(-1)", x.section(-1), 2);
    c.refuses("time(0, 0, true)", x.time(0, 0, true), 2);
    c.refuses("together(0, 1, true)", x.together(0, 1, true), 2);
    c.refuses("passes(0, 1)", x.passes(0, 1), 2);
    c.refuses("stood(0)", x.stood(0), 2);
    c.refuses("late(0, 0)", x.late(0, 0), 2);
    c.answers("event(-1, 0)", x.event(-1, 0), 0);
    c.refuses("event(0, 0)", x.event(0, 0), 5);
    c.refuses("use(0)", x.use(0), 2);
    c.refuses("gone(0, -1)", x.gone(0, -1), 2);
    c.refuses("waits(0)", x.waits(0), 2);
    c.answers("ahead(99, true, 3)", x.ahead(99, true, 3), 0);
    c.answers("ahead(99, false, 2)", x.ahead(99, false, 2), 1);
    int[] ends = {0, 0, 0, 0, 0};
    for (int what = 0; what < 5; what++) c.answers("ends(true, " + what + "): all of none are DONE", x.ends(true, what), ends[what]);
    c.refuses("when(0)", x.when(0), 2);
    c.answers("plan(-1)", x.plan(-1), 0);
    c.refuses("plan(0)", x.plan(0), 5);
    c.refuses("cost(0, 1)", x.cost(0, 1), 2);
    c.refuses("slack(0)", x.slack(0), 2);
    c.refuses("band(0, true)", x.band(0, true), 2);
    c.refuses("swap(0, 1)", x.swap(0, 1), 2);
    c.refuses("burden(false)", x.burden(false), 5);
    c.refuses("burden(true)", x.burden(true), 5);
    c.refuses("loop(0, 1)", x.loop(0, 1), 2);
    c.refuses("build()", x.build(), 5);
    c.refuses("hold(0, 1)", x.hold(0, 1), 2);
    c.refuses("shut(0, 0, true)", x.shut(0, 0, true), 2);
    c.refuses("rank(0)", x.rank(0), 4);
    c.refuses("rank(1)", x.rank(1), 1);
    c.refuses("start(0, 0)", x.start(0, 0), 2);
    c.refuses("stall(0, 1)", x.stall(0, 1), 2);
    c.refuses("link(0, 0, 0)", x.link(0, 0, 0), 2);
    c.refuses("cut(0)", x.cut(0), 5);
    c.refuses("undo()", x.undo(), 5);
    c.answers("print()", x.print(), 0);
    c.answers("go(99, true)", x.go(99, true), 99);
    c.answers("ends(true, 1)", x.ends(true, 1), 99);
    c.answers("undo()", x.undo(), 0);
    c.answers("many(2)", x.many(2), 0);
  }

  /** Numbers so great that a sum or a product of them would wrap around are refused like those next to what can be. */
  private static void wildNumbers() {
    for (int n : new int[] {MIN, MIN + 1, -1000, 1000, MAX - 1, MAX}) {
      Check.promise(4); refused(1, "load(" + n + ")", x -> x.load(n));
      Check.promise(6); refused(1, "many(" + n + ")", x -> x.many(n));
      Check.promise(7); refused(1, "station(" + n + ", " + n + ")", x -> x.station(n, n));
      Check.promise(8); refused(1, "track(" + n + ", " + n + ", " + n + ")", x -> x.track(n, n, n)); refused(2, "track(" + n + ", " + n + ", 0)", x -> x.track(n, n, 0));
      Check.promise(9); refused(1, "train(" + n + ", " + n + ")", x -> x.train(n, n));
      Check.promise(12); refused(n < 0 ? 1 : 5, "through(" + n + ")", x -> x.through(n));
      Check.promise(15); refused(n < 0 ? 1 : 5, "links(" + n + ", 1)", x -> x.links(n, 1)); refused(1, "links(0, " + n + ")", x -> x.links(0, n));
      Check.promise(24); refused(n < 0 ? 1 : 5, "event(" + n + ", 1)", x -> x.event(n, 1)); refused(1, "event(0, " + n + ")", x -> x.event(0, n));
      Check.promise(26); refused(n < 0 ? 1 : 2, "gone(" + n + ", " + n + ")", x -> x.gone(n, n));
      Check.promise(28); refused(1, "ahead(" + n + ", true, 0)", x -> x.ahead(n, true, 0)); refused(1, "ahead(0, true, " + n + ")", x -> x.ahead(0, true, n));
      Check.promise(29); refused(1, "ends(true, " + n + ")", x -> x.ends(true, n));
      Check.promise(31); refused(n < 0 ? 1 : 5, "plan(" + n + ")", x -> x.plan(n));
      Check.promise(32); refused(1, "cost(" + n + ", " + n + ")", x -> x.cost(n, n));
      Check.promise(37); refused(1, "loop(" + n + ", " + n + ")", x -> x.loop(n, n));
      Check.promise(39); refused(1, "go(" + n + ", true)", x -> x.go(n, true));
      Check.promise(40); refused(1, "hold(0, " + n + ")", x -> x.hold(0, n));
      Check.promise(42); refused(1, "rank(" + n + ")", x -> x.rank(n));
      Check.promise(43); refused(1, "start(2, " + n + ")", x -> x.start(2, n));
      Check.promise(44); refused(1, "stall(2, " + n + ")", x -> x.stall(2, n));
      Check.promise(45); refused(2, "link(" + n + ", " + n + ", " + n + ")", x -> x.link(n, n, n));
      Check.promise(46); refused(n < 0 ? 1 : 5, "cut(" + n + ")", x -> x.cut(n));
      Check.promise(5); due("fault(" + n + ")", x -> x.fault(n), -1);
    }
  }

  private static void due(String call, Call it, int want) {
    Check c = busy();
    c.due(call, it.of(c.x), want);
  }

  private static void asks(String call, Call it) {
    Check c = busy();
    it.of(c.x);
    c.due("status() behind " + call, c.x.status(), 0);
    String difference = Picture.difference(BUSY, Picture.of(c.x));
    if (!difference.isEmpty()) c.due(call + " changed something: " + difference, 1, 0);
  }

  private static void askingChangesNothing() {
    Check.promise(11); asks("why(0)", x -> x.why(0));
    Check.promise(13); asks("risks()", x -> x.risks());
    Check.promise(14); for (int s = 0; s < 3; s++) { int station = s; asks("weak(" + s + ")", x -> x.weak(station)); }
    Check.promise(17); asks("ring()", x -> x.ring());
    Check.promise(28); asks("ahead(99, true, 0)", x -> x.ahead(99, true, 0)); asks("ahead(99, false, 1)", x -> x.ahead(99, false, 1));
    Check.promise(29); asks("ends(true, 0)", x -> x.ends(true, 0)); asks("ends(false, 4)", x -> x.ends(false, 4));
    Check.promise(30); asks("when(0)", x -> x.when(0));
    Check.promise(31); asks("plan(0)", x -> x.plan(0)); asks("plan(-1)", x -> x.plan(-1));
    Check.promise(32); asks("cost(1, 30)", x -> x.cost(1, 30));
    Check.promise(33); asks("slack(1)", x -> x.slack(1));
    Check.promise(35); asks("swap(0, 1)", x -> x.swap(0, 1));
    Check.promise(36); asks("burden(true)", x -> x.burden(true)); asks("burden(false)", x -> x.burden(false));
    Check.promise(37); asks("loop(1, 99)", x -> x.loop(1, 99));
    Check.promise(38); asks("build()", x -> x.build());
    Check.promise(34);
    Check c = new Check(LINE), d = new Check(LINE);
    for (int t = 0; t < 3; t++) { c.x.band(t, false); c.x.band(t, true); }
    c.due("band() changes nothing", Picture.of(c.x).equals(Picture.of(d.x)) ? 1 : 0, 1);
  }

  private static void undone(String call, Call act) {
    Check c = busy();
    act.of(c.x);
    c.due("status() behind " + call, c.x.status(), 0);
    c.answers("undo() behind " + call, c.x.undo(), 7);
    String difference = Picture.difference(BUSY, Picture.of(c.x));
    if (!difference.isEmpty()) c.due(call + " undone leaves something: " + difference, 1, 0);
    // and once more when two have met and one is done
    Check d = new Check(LINE), e = new Check(LINE);
    for (Check one : List.of(d, e)) { one.x.go(3, true); one.x.hold(0, 7); one.x.go(6, true); }
    int left = act.of(d.x) == -1 ? 3 : d.x.undo();
    d.due("acts left behind " + call, left, 3);
    difference = Picture.difference(Picture.of(e.x), Picture.of(d.x));
    if (!difference.isEmpty()) d.due(call + " undone later leaves something: " + difference, 1, 0);
  }

  private static void actsUndone() {
    Check.promise(47);
    undone("go(1, true)", x -> x.go(1, true));
    undone("go(99, true)", x -> x.go(99, true));
    undone("go(99, false)", x -> x.go(99, false));
    undone("hold(0, 99)", x -> x.hold(0, 99));
    undone("hold(2, 1)", x -> x.hold(2, 1));
    undone("shut(1, 0, true)", x -> x.shut(1, 0, true));
    undone("shut(2, 2, false)", x -> x.shut(2, 2, false));
    undone("rank(12)", x -> x.rank(12));
    undone("stall(2, 99)", x -> x.stall(2, 99));
    undone("link(0, 1, 2)", x -> x.link(0, 1, 2));
    undone("cut(0)", x -> x.cut(0));
    undone("cut(1)", x -> x.cut(1));
    Check c = new Check(LINE), d = new Check(LINE);
    c.answers("start(0, 50)", c.x.start(0, 50), 0);
    c.answers("undo()", c.x.undo(), 0);
    c.due("start() undone leaves nothing", Picture.of(c.x).equals(Picture.of(d.x)) ? 1 : 0, 1);
    // all of them, one after the other, back to the text
    Check f = new Check(LINE);
    f.x.go(20, false);
    f.x.undo();
    f.x.go(3, true);
    f.x.hold(0, 7);
    f.x.go(30, true);
    f.x.link(0, 0, 1);
    for (int left = 3; left >= 0; left--) f.answers("undo()", f.x.undo(), left);
    f.due("all undone: as the text tells", Picture.of(f.x).equals(Picture.of(new Check(LINE).x)) ? 1 : 0, 1);
  }

  /** What a text is read over leaves nothing behind; OUT alone stays. */
  private static void readingForgets() {
    Check.promise(4);
    Check c = busy();
    c.x.load(0);
    c.x.print(); // OUT is empty then, as on a new object
    c.reads(LINE, 3);
    String difference = Picture.difference(Picture.of(new Check(LINE).x), Picture.of(c.x));
    if (!difference.isEmpty()) c.due("read anew: " + difference, 1, 0);
    // trains that were together are so no more, and meet behind later minutes than then
    Check d = busy();
    d.x.load(0);
    d.reads(LINE, 3);
    d.refuses("together(0, 1, false)", d.x.together(0, 1, false), 5);
    d.answers("passes(0, 1)", d.x.passes(0, 1), 0);
    d.answers("gone(0, -1)", d.x.gone(0, -1), 0);
  }

  /** An object is used for 512 calls: the last of them answers like the first. */
  private static void lastCalls() {
    Check.promise(39);
    SidingLoops x = new SidingLoops();
    Check c = new Check();
    c.x = x;
    c.feed(FULL);
    int calls = (FULL.length() + 19) / 20;
    c.due("load", x.load(FULL.length()), 5);
    calls++;
    for (; calls < 508; calls += 4) {
      c.due("go(9, true)", x.go(9, true), 9);
      c.due("hold(4, 99)", x.hold(4, 99), 108);
      c.due("undo()", x.undo(), 1);
      c.due("undo()", x.undo(), 0);
    }
    c.due("plan(-1)", x.plan(-1) >= 5 ? 1 : 0, 1);
    c.due("many(2)", x.many(2), 0);
  }
}
