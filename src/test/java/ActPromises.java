/** Promises 39 to 47: acts, and the minutes that go by. */
public final class ActPromises {
  public static void main(String[] args) {
    go();
    minutes();
    care();
    hold();
    shut();
    rank();
    start();
    stall();
    link();
    cut();
    undo();
    Check.end();
  }

  private static void go() {
    Check.promise(39);
    Check c = new Check(Check.MEET);
    c.refuses("go(0, true)", c.x.go(0, true), 1);
    c.refuses("go(-1, true)", c.x.go(-1, true), 1);
    c.refuses("go(100, true)", c.x.go(100, true), 1);
    c.answers("many(6)", c.x.many(6), 0);
    c.answers("go(1, true)", c.x.go(1, true), 1);
    for (int i = 1; i <= 10; i++) c.answers("go(99, false)", c.x.go(99, false), 1 + 99 * i);
    c.refuses("go(9, true)", c.x.go(9, true), 3);
    c.refuses("go(100, true)", c.x.go(100, true), 1);
    c.answers("go(8, true)", c.x.go(8, true), 999);
    c.refuses("go(1, true)", c.x.go(1, true), 3);
  }

  private static void minutes() {
    Check.promise(39);
    // one that comes in goes in the next minute at the soonest; one that arrived may go at once
    Check c = new Check("station a 0 9;station b 1 9;station c 1 9;train t 5 a c 0;");
    c.x.go(1, false);
    c.answers("train(0, 6)", c.x.train(0, 6), 1);
    c.x.go(1, false);
    c.answers("train(0, 6)", c.x.train(0, 6), 2);
    c.x.go(1, false);
    c.answers("train(0, 7)", c.x.train(0, 7), 1);
    c.answers("time(0, 1, true)", c.x.time(0, 1, true), 2);
    // START in its minute, not ahead of it
    Check d = new Check("station a 0 9;station b 1 9;train t 5 a b 3;");
    d.x.go(3, false);
    d.answers("train(0, 6)", d.x.train(0, 6), 0);
    d.x.go(1, false);
    d.answers("time(0, 0, false)", d.x.time(0, 0, false), 3);
    // by RANK: the track and the section go to the weightier one; a track left in a minute is free in it for those behind
    Check e = new Check("station a 0 9;station b 3 9;train t 5 a b 0;train u 5 a b 0 weight 2;");
    e.x.go(2, false);
    e.answers("time(1, 0, false)", e.x.time(1, 0, false), 0);
    e.answers("time(0, 0, false)", e.x.time(0, 0, false), 1);
    e.x.go(9, false);
    e.answers("time(1, 1, false)", e.x.time(1, 1, false), 4);
    e.answers("time(0, 0, true)", e.x.time(0, 0, true), 4);
    // not for those ahead in RANK
    Check f = new Check("station a 0 9;station b 3 9;train t 5 a b 0;train u 5 a b 1 weight 2;");
    f.x.go(3, false);
    f.answers("time(1, 0, false)", f.x.time(1, 0, false), 2);
    // the next station must have a track that is free and fits, and it is kept at once
    Check g = new Check("station a 0 9;station b 3 9;station c 3 9;train t 5 a c 0;train u 5 c a 0;");
    g.x.go(2, false);
    g.answers("train(1, 6)", g.x.train(1, 6), 1);
    g.answers("why(1)", g.x.why(1), 3);
    g.x.go(3, false); // t goes on in 4, and makes room in b, but is on the section of u
    g.answers("train(0, 7)", g.x.train(0, 7), 1);
    g.answers("why(1)", g.x.why(1), 4);
    g.x.go(3, false);
    g.answers("time(1, 2, true)", g.x.time(1, 2, true), 7);
  }

  private static void care() {
    Check.promise(39);
    Check c = new Check(Check.RING);
    c.x.go(99, true);
    c.answers("many(3)", c.x.many(3), 2);
    Check d = new Check(Check.RING);
    d.x.go(99, false);
    d.answers("many(3)", d.x.many(3), 0);
    // care in coming in
    Check e = new Check(Check.MEET);
    e.x.shut(1, 1, true);
    e.x.go(5, true);
    e.answers("train(0, 6)", e.x.train(0, 6), 0);
    e.x.undo();
    e.x.go(5, false);
    e.answers("train(0, 6)", e.x.train(0, 6), 1);
    // once it is not safe, careful ones stay where they are, but who is on a section arrives
    Check f = new Check(Check.RING);
    f.x.go(2, false);
    f.x.go(99, true);
    f.answers("many(8)", f.x.many(8), 1);
    f.answers("time(0, 1, false)", f.x.time(0, 1, false), 3);
  }

  private static void hold() {
    Check.promise(40);
    Check c = new Check(Check.MEET);
    c.answers("hold(0, 3)", c.x.hold(0, 3), 3);
    c.x.go(3, true);
    c.answers("train(0, 6)", c.x.train(0, 6), 0);
    c.x.go(1, true);
    c.answers("time(0, 0, false)", c.x.time(0, 0, false), 3);
    c.answers("hold(0, 99)", c.x.hold(0, 99), 103);
    c.answers("hold(0, 2): however long it was", c.x.hold(0, 2), 6);
    c.x.go(3, true);
    c.answers("time(0, 0, true)", c.x.time(0, 0, true), 6);
    c.answers("hold(0, 9): on a section, it arrives", c.x.hold(0, 9), 16);
    c.x.go(4, true);
    c.answers("time(0, 1, false)", c.x.time(0, 1, false), 10);
    c.x.go(5, true);
    c.refuses("time(0, 1, true)", c.x.time(0, 1, true), 5);
    c.x.go(1, true);
    c.answers("time(0, 1, true)", c.x.time(0, 1, true), 16);
    c.x.go(20, true);
    c.refuses("hold(0, 1): done", c.x.hold(0, 1), 4);
    c.refuses("hold(0, 0)", c.x.hold(0, 0), 1);
    c.refuses("hold(0, 100)", c.x.hold(0, 100), 1);
    c.refuses("hold(2, 100)", c.x.hold(2, 100), 1);
    c.refuses("hold(2, 1)", c.x.hold(2, 1), 2);
    c.refuses("hold(-1, 1)", c.x.hold(-1, 1), 2);
  }

  private static void shut() {
    Check.promise(41);
    Check c = new Check(Check.MEET);
    c.refuses("shut(0, 0, false)", c.x.shut(0, 0, false), 4);
    c.answers("shut(0, 0, true): free ones of all stations", c.x.shut(0, 0, true), 3);
    c.refuses("shut(0, 0, true)", c.x.shut(0, 0, true), 4);
    c.answers("shut(1, 1, true)", c.x.shut(1, 1, true), 2);
    c.answers("shut(0, 0, false)", c.x.shut(0, 0, false), 3);
    c.refuses("shut(0, 1, true)", c.x.shut(0, 1, true), 2);
    c.refuses("shut(0, -1, true)", c.x.shut(0, -1, true), 2);
    c.refuses("shut(3, 0, true)", c.x.shut(3, 0, true), 2);
    c.refuses("shut(-1, 0, true)", c.x.shut(-1, 0, true), 2);
    c.refuses("shut(1, 2, false)", c.x.shut(1, 2, false), 2);
    Check d = new Check(Check.MEET);
    d.x.go(2, true); // both have tracks of b kept
    d.answers("shut(1, 1, true)", d.x.shut(1, 1, true), 2);
    d.x.go(4, true);
    d.answers("train(0, 7): who has it kept stays", d.x.train(0, 7), 1);
    d.x.go(6, true);
    d.answers("train(0, 6)", d.x.train(0, 6), 3);
    d.answers("shut(1, 1, false)", d.x.shut(1, 1, false), 4);
    Check e = new Check(Check.MEET);
    e.x.shut(0, 0, true);
    e.x.go(9, true);
    e.answers("train(0, 6): nobody comes into a shut track", e.x.train(0, 6), 0);
  }

  private static void rank() {
    Check.promise(42);
    Check c = new Check("station a 0 50;station b 5 20;train k 1 a b 0;train l 1 a b 0;train m 1 a b 0;train n 1 a b 0;train o 1 a b 0;");
    c.refuses("rank(1234): so already", c.x.rank(1234), 4);
    c.answers("rank(20143)", c.x.rank(20143), 0);
    int[] places = {1, 2, 0, 4, 3};
    for (int t = 0; t < 5; t++) c.answers("train(" + t + ", 13)", c.x.train(t, 13), places[t]);
    c.answers("rank(20134)", c.x.rank(20134), 3);
    c.answers("rank(1234)", c.x.rank(1234), 2);
    for (int row : new int[] {-1, -1234, 0, 1233, 11234, 12345, 101234, 123, 2014, 1012340, Integer.MAX_VALUE, Integer.MIN_VALUE}) {
      c.refuses("rank(" + row + ")", c.x.rank(row), 1);
    }
    c.answers("train(4, 13)", c.x.train(4, 13), 4);
    Check d = new Check("station a 0 9 9;station b 5 20;train t 1 a b 0;train u 1 a b 0 weight 2;");
    d.refuses("rank(10)", d.x.rank(10), 4);
    d.answers("rank(1)", d.x.rank(1), 0);
    d.x.go(2, true);
    d.answers("section(0): the first goes first", d.x.section(0), 0);
    Check e = new Check();
    e.refuses("rank(0)", e.x.rank(0), 4);
    e.refuses("rank(1)", e.x.rank(1), 1);
    Check f = new Check("station a 0 9;station b 5 20;train t 1 a b 0;");
    f.refuses("rank(0)", f.x.rank(0), 4);
    f.refuses("rank(1)", f.x.rank(1), 1);
    f.refuses("rank(10)", f.x.rank(10), 1);
  }

  private static void start() {
    Check.promise(43);
    Check c = new Check("station a 0 9;station b 1 9;train t 5 a b 3;");
    c.answers("start(0, 199)", c.x.start(0, 199), 3);
    c.answers("start(0, 0)", c.x.start(0, 0), 199);
    c.refuses("start(0, 0)", c.x.start(0, 0), 4);
    c.refuses("start(0, -1)", c.x.start(0, -1), 1);
    c.refuses("start(0, 200)", c.x.start(0, 200), 1);
    c.refuses("start(1, 200)", c.x.start(1, 200), 1);
    c.refuses("start(1, 0)", c.x.start(1, 0), 2);
    c.refuses("start(-1, 0)", c.x.start(-1, 0), 2);
    c.answers("start(0, 5)", c.x.start(0, 5), 0);
    c.x.go(5, true);
    c.answers("start(0, 2): behind us", c.x.start(0, 2), 5);
    c.x.go(1, true);
    c.refuses("start(0, 2): it is so, asked first", c.x.start(0, 2), 4);
    c.refuses("start(0, 3): in", c.x.start(0, 3), 5);
    c.x.go(5, true); // off in 6, done in 7
    c.answers("train(0, 11)", c.x.train(0, 11), 7 - 2 - 1);
    c.refuses("start(0, 3): done", c.x.start(0, 3), 5);
  }

  private static void stall() {
    Check.promise(44);
    Check c = new Check(Check.MEET);
    c.refuses("stall(0, 1): out", c.x.stall(0, 1), 5);
    c.x.go(1, true);
    c.refuses("stall(0, 1): in", c.x.stall(0, 1), 5);
    c.x.go(1, true);
    c.answers("stall(0, 2)", c.x.stall(0, 2), 7);
    c.answers("stall(0, 1): later than it would", c.x.stall(0, 1), 8);
    c.answers("stall(1, 99)", c.x.stall(1, 99), 105);
    c.refuses("stall(0, 0)", c.x.stall(0, 0), 1);
    c.refuses("stall(0, 100)", c.x.stall(0, 100), 1);
    c.refuses("stall(2, 100)", c.x.stall(2, 100), 1);
    c.refuses("stall(2, 1)", c.x.stall(2, 1), 2);
    c.refuses("stall(-1, 1)", c.x.stall(-1, 1), 2);
    c.x.go(99, true);
    c.answers("time(0, 1, false)", c.x.time(0, 1, false), 8);
    c.refuses("time(1, 1, false)", c.x.time(1, 1, false), 5);
    c.x.go(50, true);
    c.answers("time(1, 1, false)", c.x.time(1, 1, false), 105);
    c.refuses("stall(0, 1): done", c.x.stall(0, 1), 5);
  }

  private static void link() {
    Check.promise(45);
    Check c = new Check(Check.MEET);
    c.answers("link(0, 1, 1)", c.x.link(0, 1, 1), 0);
    c.answers("link(0, 2, 1)", c.x.link(0, 2, 1), 1);
    c.answers("link(1, 1, 0)", c.x.link(1, 1, 0), 2);
    c.refuses("link(0, 2, 1): there is one", c.x.link(0, 2, 1), 4);
    c.answers("link(0, 0, 1)", c.x.link(0, 0, 1), 3);
    c.refuses("link(1, 0, 0): there are 4", c.x.link(1, 0, 0), 3);
    c.refuses("link(0, 0, 1): 4 ahead of 3", c.x.link(0, 0, 1), 4);
    c.refuses("link(0, 0, 0)", c.x.link(0, 0, 0), 4);
    c.refuses("link(2, 0, 0)", c.x.link(2, 0, 0), 2);
    c.refuses("link(0, 3, 1)", c.x.link(0, 3, 1), 2);
    c.refuses("link(0, 0, 2)", c.x.link(0, 0, 2), 2);
    c.refuses("link(-1, 0, 1)", c.x.link(-1, 0, 1), 2);
    c.refuses("link(0, -1, 1)", c.x.link(0, -1, 1), 2);
    c.refuses("link(0, 0, -1)", c.x.link(0, 0, -1), 2);
    c.refuses("link(2, 0, 2)", c.x.link(2, 0, 2), 2);
    c.answers("links(-1, 0)", c.x.links(-1, 0), 4);
    // p stays in a till q is there, in 10
    Check d = new Check(Check.MEET);
    d.x.link(0, 0, 1);
    d.x.go(30, true);
    d.answers("time(0, 0, true): in the same minute", d.x.time(0, 0, true), 10);
    d.answers("time(0, 2, false)", d.x.time(0, 2, false), 19);
    // neither stuck nor why() ask for links
    Check e = new Check(Check.MEET);
    e.x.link(0, 0, 1);
    e.x.link(1, 2, 0);
    e.x.go(50, true);
    e.answers("many(3)", e.x.many(3), 0);
    e.answers("many(8)", e.x.many(8), 0);
    e.answers("why(0)", e.x.why(0), 0);
    e.answers("ends(true, 1)", e.x.ends(true, 1), 350);
  }

  private static void cut() {
    Check.promise(46);
    Check c = new Check(Check.MEET);
    c.refuses("cut(0)", c.x.cut(0), 5);
    for (int s = 0; s < 3; s++) c.x.link(0, s, 1);
    c.x.link(1, 1, 0);
    c.refuses("cut(-1)", c.x.cut(-1), 1);
    c.refuses("cut(4)", c.x.cut(4), 5);
    c.answers("cut(1)", c.x.cut(1), 3);
    int[][] due = {{0, 0, 1}, {0, 2, 1}, {1, 1, 0}};
    for (int k = 0; k < 3; k++) for (int what = 0; what < 3; what++) c.answers("links(" + k + ", " + what + ")", c.x.links(k, what), due[k][what]);
    c.answers("cut(2)", c.x.cut(2), 2);
    c.answers("cut(0)", c.x.cut(0), 1);
    c.answers("links(0, 1)", c.x.links(0, 1), 2);
    c.answers("link(0, 0, 1)", c.x.link(0, 0, 1), 1);
    Check d = new Check(Check.MEET);
    d.x.link(0, 0, 1);
    d.x.go(4, true);
    d.x.cut(0);
    d.x.go(1, true);
    d.answers("time(0, 0, true)", d.x.time(0, 0, true), 4);
  }

  private static void undo() {
    Check.promise(47);
    Check c = new Check(Check.MEET);
    c.refuses("undo()", c.x.undo(), 5);
    c.x.go(3, true);
    c.x.hold(0, 9);
    c.x.shut(2, 0, true);
    c.x.rank(10);
    c.x.stall(0, 7);
    c.x.link(0, 1, 1);
    c.x.cut(0);
    c.x.go(0, true);
    c.x.shut(2, 0, true);
    c.answers("many(6): refused acts are none", c.x.many(6), 7);
    c.answers("undo() cut", c.x.undo(), 6);
    c.answers("links(0, 1)", c.x.links(0, 1), 1);
    c.answers("undo() link", c.x.undo(), 5);
    c.answers("links(-1, 0)", c.x.links(-1, 0), 0);
    c.answers("train(0, 9)", c.x.train(0, 9), 9);
    c.answers("undo() stall", c.x.undo(), 4);
    c.answers("train(0, 9)", c.x.train(0, 9), 2);
    c.answers("train(0, 13)", c.x.train(0, 13), 1);
    c.answers("undo() rank", c.x.undo(), 3);
    c.answers("train(0, 13)", c.x.train(0, 13), 0);
    c.answers("undo() shut", c.x.undo(), 2);
    c.answers("track(2, 0, 2)", c.x.track(2, 0, 2), 0);
    c.answers("train(0, 12)", c.x.train(0, 12), 12);
    c.answers("undo() hold", c.x.undo(), 1);
    c.refuses("train(0, 12)", c.x.train(0, 12), 5);
    c.answers("undo() go", c.x.undo(), 0);
    c.answers("many(2)", c.x.many(2), 0);
    c.answers("event(-1, 0)", c.x.event(-1, 0), 0);
    c.answers("use(0)", c.x.use(0), 0);
    c.answers("gone(0, -1)", c.x.gone(0, -1), 0);
    c.answers("waits(0)", c.x.waits(0), 0);
    c.answers("stood(0)", c.x.stood(0), 0);
    c.refuses("time(0, 0, true)", c.x.time(0, 0, true), 5);
    c.refuses("undo()", c.x.undo(), 5);
    c.x.start(0, 8);
    c.answers("undo() start", c.x.undo(), 0);
    c.answers("train(0, 3)", c.x.train(0, 3), 0);
    // ten are kept
    for (int i = 1; i <= 13; i++) c.x.go(1, true);
    c.answers("many(6)", c.x.many(6), 10);
    for (int i = 9; i >= 0; i--) c.answers("undo()", c.x.undo(), i);
    c.answers("many(2)", c.x.many(2), 3);
    c.refuses("undo()", c.x.undo(), 5);
    // what is undone is no act to undo; new ones come on top of those that are left
    c.x.go(2, true);
    c.x.go(3, true);
    c.x.undo();
    c.x.go(4, true);
    c.answers("undo()", c.x.undo(), 1);
    c.answers("many(2)", c.x.many(2), 5);
    c.answers("undo()", c.x.undo(), 0);
    c.answers("many(2)", c.x.many(2), 3);
  }
}
