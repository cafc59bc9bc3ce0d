/** Promises 28 to 38: what would be. */
public final class ForecastPromises {
  /** RING in which y is of more weight. x first: 22 (x 1, y 3 times 7); y first: 10 (y 3 times 1, x 7). */
  private static final String HEAVY = Check.RING.substring(0, Check.RING.length() - 1) + " weight 3;";

  public static void main(String[] args) {
    ahead();
    ends();
    when();
    plan();
    cost();
    slack();
    band();
    swap();
    burden();
    loop();
    build();
    nothingChanges();
    Check.end();
  }

  private static void ahead() {
    Check.promise(28);
    Check c = new Check(Check.RING);
    int[][] due = { // minutes, care, what 0 to 5
      {0, 0, 0, 2000, 1, 0, 0, 2}, {1, 0, 0, 2000, 1, 0, 0, 0}, {2, 0, 0, 2000, 0, 0, 2, 0}, {4, 0, 0, 2000, 0, 1, 0, 0}, {99, 0, 0, 2000, 0, 1, 0, 0},
      {2, 1, 0, 2000, 1, 0, 1, 0}, {7, 1, 0, 2000, 1, 0, 1, 0}, {8, 1, 1, 1001, 1, 0, 1, 0}, {14, 1, 2, 8, 1, 0, 0, 0}, {99, 1, 2, 8, 1, 0, 0, 0}};
    for (int[] d : due) {
      for (int what = 0; what < 6; what++) c.answers("ahead(" + d[0] + ", " + d[1] + ", " + what + ")", c.x.ahead(d[0], d[1] == 1, what), d[2 + what]);
    }
    c.refuses("ahead(-1, true, 0)", c.x.ahead(-1, true, 0), 1);
    c.refuses("ahead(100, true, 0)", c.x.ahead(100, true, 0), 1);
    c.refuses("ahead(0, true, -1)", c.x.ahead(0, true, -1), 1);
    c.refuses("ahead(0, true, 6)", c.x.ahead(0, true, 6), 1);
    // behind 999 one may look, though not go
    for (int i = 0; i < 10; i++) c.x.go(99, true);
    c.answers("ahead(99, true, 0)", c.x.ahead(99, true, 0), 2);
  }

  private static void ends() {
    Check.promise(29);
    Check c = new Check(Check.RING);
    int[][] due = {{2000, 4, 0, 1, 4}, {8, 14, 2, 0, 12}};
    for (int care = 0; care < 2; care++) for (int what = 0; what < 5; what++) c.answers("ends(" + care + ", " + what + ")", c.x.ends(care == 1, what), due[care][what]);
    c.refuses("ends(true, -1)", c.x.ends(true, -1), 1);
    c.refuses("ends(true, 5)", c.x.ends(true, 5), 1);
    c.x.go(3, true);
    c.answers("ends(true, 1)", c.x.ends(true, 1), 14);
    c.answers("ends(true, 4): what was counts too", c.x.ends(true, 4), 12);
    c.x.go(20, true);
    c.answers("ends(true, 1): all are done", c.x.ends(true, 1), 23);
    // 300 minutes at most, whatever minute it is
    Check d = new Check(Check.MEET);
    d.x.shut(1, 1, true);
    d.x.go(5, true);
    d.answers("ends(true, 1)", d.x.ends(true, 1), 305);
    d.answers("ends(true, 2)", d.x.ends(true, 2), 1);
    d.answers("ends(true, 0)", d.x.ends(true, 0), 1001);
    // STUCK at once
    Check e = new Check(Check.RING);
    e.x.go(9, false);
    e.answers("ends(true, 1)", e.x.ends(true, 1), 9);
    e.answers("ends(true, 3)", e.x.ends(true, 3), 1);
    // the last of the 300 minutes
    Check f = new Check("station a 0 9;station b 1 9;train t 5 a b 0;");
    f.x.go(2, true);
    for (int n : new int[] {99, 99, 99}) f.x.stall(0, n);
    f.answers("when(0)", f.x.when(0), 299);
    f.x.stall(0, 2);
    f.answers("when(0)", f.x.when(0), 301);
    f.answers("ends(true, 1)", f.x.ends(true, 1), 302);
    f.x.stall(0, 1);
    f.refuses("when(0)", f.x.when(0), 5);
    f.answers("ends(true, 2)", f.x.ends(true, 2), 0);
  }

  private static void when() {
    Check.promise(30);
    Check c = new Check(Check.RING);
    c.answers("when(0)", c.x.when(0), 7);
    c.answers("when(1)", c.x.when(1), 13);
    c.refuses("when(2)", c.x.when(2), 2);
    c.refuses("when(-1)", c.x.when(-1), 2);
    c.x.go(8, true);
    c.refuses("when(0): it is", c.x.when(0), 4);
    c.answers("when(1)", c.x.when(1), 13);
    Check d = new Check(Check.RING);
    d.x.go(2, false);
    d.refuses("when(0): never", d.x.when(0), 5);
  }

  private static void plan() {
    Check.promise(31);
    Check c = new Check(Check.RING);
    c.answers("plan(-1)", c.x.plan(-1), 8);
    c.answers("plan(0): of alike ones the first", c.x.plan(0), 0);
    c.answers("plan(1)", c.x.plan(1), 1);
    c.refuses("plan(2)", c.x.plan(2), 5);
    c.refuses("plan(-2)", c.x.plan(-2), 1);
    Check d = new Check(HEAVY);
    d.x.rank(1); // x first: the plan doesn't ask for the rank told
    d.answers("ends(true, 0)", d.x.ends(true, 0), 22);
    d.answers("plan(-1)", d.x.plan(-1), 10);
    d.answers("plan(0)", d.x.plan(0), 1);
    d.answers("plan(1)", d.x.plan(1), 0);
    d.answers("train(0, 13): it stays", d.x.train(0, 13), 0);
    // four from a, the first of which is off soonest: by weight backwards to their numbers
    Check e = new Check("station a 0 9 9 9;station b 10 9;station c 10 9;train k 5 a b 0;train l 5 a b 0 weight 2;train m 5 a b 0 weight 3;train n 5 c b 0;");
    e.answers("plan(-1): m 1, l 11, k 21, n 1", e.x.plan(-1), 3 + 22 + 21 + 1);
    int[] order = {2, 1, 0, 3}; // n is in nobody's way: of the orders that differ by its place this is the first
    for (int k = 0; k < 4; k++) e.answers("plan(" + k + ")", e.x.plan(k), order[k]);
  }

  private static void cost() {
    Check.promise(32);
    Check c = new Check(Check.RING);
    c.answers("cost(0, 1): y is first then", c.x.cost(0, 1), 0);
    c.answers("cost(0, 20): x comes in, in 20", c.x.cost(0, 20), 14);
    c.refuses("cost(0, 0)", c.x.cost(0, 0), 1);
    c.refuses("cost(0, 100)", c.x.cost(0, 100), 1);
    c.refuses("cost(2, 100)", c.x.cost(2, 100), 1);
    c.refuses("cost(2, 1)", c.x.cost(2, 1), 2);
    c.refuses("cost(-1, 1)", c.x.cost(-1, 1), 2);
    c.answers("cost(1, 99): y comes in, in 99", c.x.cost(1, 99), 100 + 1 - 8);
    c.x.go(8, true);
    c.refuses("cost(0, 1): done", c.x.cost(0, 1), 4);
    c.refuses("cost(0, 0)", c.x.cost(0, 0), 1);
    Check d = new Check(HEAVY);
    d.x.rank(1);
    d.due("cost(0, 1): less", d.x.cost(0, 1), 10 - 22);
    d.due("status()", d.x.status(), 0);
    // from now on, however long it was: held for 20, one minute costs less
    Check e = new Check(Check.RING);
    e.x.hold(0, 20);
    e.due("cost(0, 1)", e.x.cost(0, 1), 8 - 22);
    e.due("status()", e.x.status(), 0);
    e.x.go(5, true);
    e.answers("cost(0, 15): till 20, as it is", e.x.cost(0, 15), 0);
  }

  private static void slack() {
    Check.promise(33);
    Check c = new Check(Check.RING);
    c.answers("slack(0): in by 6, off in 7", c.x.slack(0), 6);
    c.refuses("slack(2)", c.x.slack(2), 2);
    c.refuses("slack(-1)", c.x.slack(-1), 2);
    c.x.go(8, true);
    c.refuses("slack(0): done", c.x.slack(0), 4);
    Check d = new Check("station a 0 9;station b 1 9;train t 5 a b 0;train u 9 a b 150;train v 10 a b 0;train w 5 a b 99;");
    d.answers("slack(0)", d.x.slack(0), 0);
    d.answers("slack(1): it would not come in by then", d.x.slack(1), 99);
    d.answers("slack(2): it can't be done at all", d.x.slack(2), 99);
    d.answers("slack(3): comes in, in 99", d.x.slack(3), 99);
    d.x.go(1, true);
    d.answers("slack(3)", d.x.slack(3), 98);
    // what is held is asked as if it wasn't
    Check e = new Check(Check.RING);
    e.x.hold(0, 20);
    e.answers("slack(0)", e.x.slack(0), 6);
  }

  private static void band() {
    Check.promise(34);
    Check c = new Check(Check.RING);
    c.answers("band(0, false): off in 7 as y is done", c.x.band(0, false), 6);
    c.answers("band(0, true)", c.x.band(0, true), 2);
    c.refuses("band(2, false)", c.x.band(2, false), 2);
    c.refuses("band(-1, true)", c.x.band(-1, true), 2);
    c.x.go(1, true);
    c.refuses("band(0, false): in", c.x.band(0, false), 5);
    // not behind 60
    Check d = new Check("station a 0 9;station b 30 9;train t 5 a b 0;train u 5 a b 1 slow 3;");
    // t first: 1 and 30; u first, off in 2 and done in 77: 1 and 77 + 30 - START - 30
    d.answers("band(0, false)", d.x.band(0, false), 60);
    d.answers("band(0, true)", d.x.band(0, true), 1 + 17);
    d.x.go(99, true);
    d.refuses("band(0, true)", d.x.band(0, true), 5);
    Check e = new Check("station a 0 9;station b 30 9;train t 5 a b 0;");
    e.x.shut(0, 0, true);
    e.x.go(70, true);
    e.x.shut(0, 0, false);
    e.answers("band(0, false): the latest of them is least late", e.x.band(0, false), 60);
    e.answers("band(0, true)", e.x.band(0, true), 11);
    e.answers("train(0, 3)", e.x.train(0, 3), 0);
  }

  private static void swap() {
    Check.promise(35);
    Check c = new Check(HEAVY);
    c.due("swap(0, 1): more", c.x.swap(0, 1), 10 - 22);
    c.due("status()", c.x.status(), 0);
    c.refuses("swap(0, 0)", c.x.swap(0, 0), 4);
    c.refuses("swap(2, 2)", c.x.swap(2, 2), 2);
    c.refuses("swap(0, -1)", c.x.swap(0, -1), 2);
    c.x.rank(1);
    c.answers("swap(0, 1)", c.x.swap(0, 1), 22 - 10);
    c.answers("swap(1, 0)", c.x.swap(1, 0), 22 - 10);
    c.answers("train(0, 13)", c.x.train(0, 13), 0);
    // places, not neighbours: m and k of k l m
    Check d = new Check("station a 0 9 9 9;station b 10 9;train k 5 a b 0;train l 5 a b 0;train m 5 a b 0;");
    d.x.rank(12);
    d.answers("swap(0, 2)", d.x.swap(0, 2), 0);
    Check e = new Check("station a 0 9 9 9;station b 10 9;train k 5 a b 0 weight 3;train l 5 a b 0 weight 2;train m 5 a b 0;");
    e.x.rank(210); // m 1, l 11, k 21: 1 + 22 + 63; k l m: 3 + 22 + 21
    e.answers("swap(0, 2)", e.x.swap(0, 2), 86 - 46);
    e.answers("swap(1, 2): l m k", e.x.swap(1, 2), 86 - (2 + 11 + 63));
  }

  private static void burden() {
    Check.promise(36);
    Check c = new Check(Check.RING);
    c.answers("burden(false): of alike ones the first", c.x.burden(false), 0);
    c.answers("burden(true)", c.x.burden(true), 1);
    Check d = new Check(HEAVY);
    d.answers("burden(false)", d.x.burden(false), 1);
    d.answers("burden(true)", d.x.burden(true), 1);
    Check e = new Check();
    e.refuses("burden(true)", e.x.burden(true), 5);
    e.refuses("burden(false)", e.x.burden(false), 5);
    Check f = new Check("station a 0 9;station b 1 9;train t 5 a b 0;");
    f.answers("burden(false)", f.x.burden(false), 0);
    f.answers("burden(true): nobody is left", f.x.burden(true), 0);
    // what it takes is free: the section with the track kept, the track it is in
    Check g = new Check(Check.RING);
    g.x.go(2, true);
    g.x.stall(0, 50);
    g.answers("burden(false)", g.x.burden(false), 0);
    g.answers("burden(true): y goes in 2 then", g.x.burden(true), 2);
    Check h = new Check(Check.RING);
    h.x.go(4, false);
    h.answers("burden(false)", h.x.burden(false), 0);
    h.answers("burden(true): y goes in 4", h.x.burden(true), 2);
    // no link keeps anybody for it
    Check i = new Check(Check.RING);
    i.x.link(0, 0, 1);
    i.x.hold(1, 99);
    i.answers("burden(false)", i.x.burden(false), 1);
    i.answers("burden(true)", i.x.burden(true), 1);
  }

  private static void loop() {
    Check.promise(37);
    Check c = new Check(Check.RING);
    int[] due = {0, 4, 4, 0};
    for (int s = 0; s < 4; s++) c.answers("loop(" + s + ", 5)", c.x.loop(s, 5), due[s]);
    c.answers("loop(1, 4): too short", c.x.loop(1, 4), 0);
    c.answers("station(1, 1)", c.x.station(1, 1), 1);
    c.refuses("loop(1, 0)", c.x.loop(1, 0), 1);
    c.refuses("loop(1, 100)", c.x.loop(1, 100), 1);
    c.refuses("loop(4, 100)", c.x.loop(4, 100), 1);
    c.refuses("loop(4, 1)", c.x.loop(4, 1), 2);
    c.refuses("loop(-1, 1)", c.x.loop(-1, 1), 2);
    c.answers("loop(1, 99)", c.x.loop(1, 99), 4);
    Check d = new Check("station a 0 9 9 9;station b 9 8 7;");
    d.refuses("loop(0, 9)", d.x.loop(0, 9), 3);
    d.answers("loop(1, 9)", d.x.loop(1, 9), 0);
  }

  private static void build() {
    Check.promise(38);
    Check c = new Check(Check.RING);
    c.answers("build()", c.x.build(), 1);
    c.answers("station(1, 1)", c.x.station(1, 1), 1);
    // b has three already, but two are too short
    Check d = new Check("station a 0 10;station b 2 10 1 1;station c 2 10;station d 2 10;train x 5 a d 0;train y 5 d a 0;");
    d.answers("build()", d.x.build(), 2);
    Check e = new Check("station a 0 1 1 1;station b 1 1 1 1;");
    e.refuses("build(): all have 3", e.x.build(), 5);
    Check f = new Check();
    f.refuses("build(): there is none", f.x.build(), 5);
    Check g = new Check("station a 0 1 1 1;station b 1 1 1;");
    g.answers("build()", g.x.build(), 1);
    // 99 is long enough for any train
    Check h = new Check("station a 0 99;station b 2 9;station c 2 9;train t 99 a c 0;");
    h.answers("build()", h.x.build(), 1);
  }

  private static void nothingChanges() {
    Check.promise(28);
    Check c = new Check(Check.RING);
    c.x.go(2, true);
    c.x.ahead(50, false, 0);
    c.x.ends(false, 0);
    c.x.when(1);
    c.x.plan(0);
    c.x.cost(1, 9);
    c.x.slack(1);
    c.x.swap(0, 1);
    c.x.burden(true);
    c.x.loop(1, 9);
    c.x.build();
    c.answers("many(2)", c.x.many(2), 2);
    c.answers("many(6)", c.x.many(6), 1);
    c.answers("event(-1, 0)", c.x.event(-1, 0), 3);
    c.answers("use(0)", c.x.use(0), 1);
    c.answers("waits(1)", c.x.waits(1), 2);
    c.answers("train(0, 13)", c.x.train(0, 13), 0);
    c.refuses("train(1, 12)", c.x.train(1, 12), 5);
    c.answers("go(12, true)", c.x.go(12, true), 14);
    c.answers("many(5)", c.x.many(5), 8);
  }
}
