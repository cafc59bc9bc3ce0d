/** Bounds that the promises 6 to 38 name, or that their answers have, beside those of the tests by promises. */
public final class EdgesOfAnswers {
  /** RING with a third one that goes to b, behind x. With care: x 1, y 7, z 3. */
  private static final String THIRD = Check.RING + "train z 5 a b 0;";
  /** RING in which y is of weight 5 and starts in 3. x first: x 1, y 4 times 5. */
  private static final String LATER = Check.RING.replace("train y 5 d a 0;", "train y 5 d a 3 weight 5;");

  public static void main(String[] args) {
    fits();
    weak();
    links();
    blocksAndRing();
    together();
    lateAtEachStation();
    aheadOfAllKinds();
    endsAddUse();
    planOfFew();
    costOfEachMinute();
    slackUpToTheFirstLoss();
    bandsLeast();
    swapOfAny();
    burdenWithCare();
    loopThatCosts();
    buildAtEach();
    shutCountsAll();
    rankTold();
    stallAndHoldTogether();
    Check.end();
  }

  private static void fits() {
    Check.promise(10);
    Check c = new Check("station a 0 1;station b 1 1;station c 1 1;station d 1 1;station e 1 1;station f 1 1;station g 1 1 1 2;train t 1 a b 0;train u 2 a b 0;train v 3 g a 0;");
    c.answers("fits(0)", c.x.fits(0), 127);
    c.answers("fits(1): the third track of the last one", c.x.fits(1), 64);
    c.answers("fits(2)", c.x.fits(2), 0);
  }

  private static void weak() {
    Check.promise(14);
    // nobody there: nothing is weak; tracks that are SHUT are none of it
    Check c = new Check("station a 0 9 9 9;station b 1 9 9 9;station c 1 9;train t 9 a c 0;");
    c.answers("weak(1)", c.x.weak(1), 0);
    c.x.go(1, true);
    c.answers("weak(1)", c.x.weak(1), 0);
    c.x.shut(1, 0, true);
    c.answers("weak(1): two are left", c.x.weak(1), 0);
    c.x.shut(1, 2, true);
    c.answers("weak(1): one is left", c.x.weak(1), 2);
    c.answers("weak(0): where it stands", c.x.weak(0), 0);
    c.answers("weak(2): TO", c.x.weak(2), 0);
    c.x.shut(1, 1, true);
    c.refuses("weak(1): not safe", c.x.weak(1), 5);
    c.refuses("weak(0): not safe", c.x.weak(0), 5);
    c.refuses("weak(3): 2 ahead of 5", c.x.weak(3), 2);
    // the track in which one stands, that another one needs behind it
    Check d = new Check("station a 0 9;station b 1 9;station c 1 9;train t 9 b c 0;train u 9 a c 0;");
    d.x.go(1, true);
    d.answers("weak(1)", d.x.weak(1), 1);
  }

  private static void links() {
    Check.promise(15);
    Check c = new Check("station a 0 9 9;station b 3 9 9;train t 5 a b 0;train u 5 b a 0;");
    c.answers("links(-1, 0)", c.x.links(-1, 0), 0);
    int[][] rows = {{0, 0, 1}, {1, 1, 0}, {0, 1, 1}, {1, 0, 0}};
    for (int k = 0; k < 4; k++) {
      c.refuses("links(" + k + ", 0): not yet", c.x.links(k, 0), 5);
      c.x.link(rows[k][0], rows[k][1], rows[k][2]);
      c.answers("links(-1, 0)", c.x.links(-1, 0), k + 1);
      c.answers("links(" + k + ", 1)", c.x.links(k, 1), rows[k][1]);
    }
    for (int k = 0; k < 4; k++) c.answers("links(" + k + ", 3): all OUT", c.x.links(k, 3), 0);
    c.x.go(1, true);
    for (int k = 0; k < 4; k++) c.answers("links(" + k + ", 3)", c.x.links(k, 3), k < 2 ? 1 : 0);
    c.x.hold(0, 9);
    c.answers("links(0, 3): HELD or not", c.x.links(0, 3), 1);
  }

  private static void blocksAndRing() {
    Check.promise(17);
    Check c = new Check(THIRD.replace("train z 5 a b 0;", "train z 5 b d 50;"));
    c.answers("ring(): all OUT", c.x.ring(), 0);
    c.x.go(2, false);
    c.answers("ring(): x and y ON", c.x.ring(), 0);
    c.x.go(2, false);
    c.answers("why(2): z can't come in", c.x.why(2), 3);
    c.answers("ring(): but is none of it", c.x.ring(), 3);
    c.refuses("blocks(2)", c.x.blocks(2), 5);
    // one that waits for one ON waits for one that waits for none
    Check d = new Check("station a 0 9 9;station b 9 9;station c 9 9;train t 5 a c 0;train u 5 a c 0;");
    d.x.go(2, false);
    d.answers("blocks(1)", d.x.blocks(1), 1);
    d.answers("ring()", d.x.ring(), 0);
    // two that wait for each other by TRACKS, and one that waits for both of them
    Check e = new Check("station a 0 9;station b 1 9;station c 1 9;station d 1 9;train t 5 a d 0;train u 5 b d 0;train v 5 c a 0;");
    e.x.go(1, false);
    e.answers("blocks(0)", e.x.blocks(0), 2);
    e.answers("blocks(1)", e.x.blocks(1), 4);
    e.answers("blocks(2)", e.x.blocks(2), 2);
    e.answers("ring()", e.x.ring(), 6);
    // all that stand there, each one in a track that would do; not who is in one that is too short
    Check f = new Check("station a 0 9;station b 1 9 9 5;station c 1 5;station d 1 9;train t 9 a d 0;train u 9 b d 0;train v 9 b d 0;train w 5 b d 0;");
    f.x.shut(2, 0, true);
    f.x.go(9, false);
    f.answers("blocks(0)", f.x.blocks(0), 2 + 4);
    f.answers("blocks(3): there is none to wait for", f.x.blocks(3), 0);
    f.answers("ring()", f.x.ring(), 0);
  }

  private static void together() {
    Check.promise(20);
    // behind the very minute in which the second one comes in; not behind one in which the first one goes on
    Check c = new Check("station a 0 9 9;station b 4 9 9;station c 4 9 9;train t 5 a c 0;train u 5 c a 2;train v 5 a b 1;");
    c.x.go(1, true);
    c.refuses("together(0, 2, true)", c.x.together(0, 2, true), 5);
    c.x.go(1, true); // t goes in 1, in which v comes in
    c.refuses("together(0, 2, true): t has gone in that minute", c.x.together(0, 2, true), 5);
    c.answers("passes(0, 2)", c.x.passes(0, 2), 0);
    c.x.go(3, true);
    c.x.hold(0, 20); // in b from 5 on
    c.x.go(3, true); // u went in 3, and is in b in 7
    c.answers("together(0, 1, true)", c.x.together(0, 1, true), 7);
    c.answers("together(1, 0, false)", c.x.together(1, 0, false), 1);
    c.answers("passes(1, 0)", c.x.passes(1, 0), 1);
    c.x.go(20, true);
    c.answers("together(0, 1, true): the first one stays", c.x.together(0, 1, true), 7);
    c.answers("passes(0, 1): once a station", c.x.passes(0, 1), 1);
    c.refuses("together(2, 0, false): v is DONE in b, not in a track of it", c.x.together(2, 0, false), 5);
  }

  private static void lateAtEachStation() {
    Check.promise(23);
    Check c = new Check("station a 0 9;station b 2 9;station c 2 9;station d 2 9;train t 5 b d 7;train u 5 d a 0;");
    c.x.hold(1, 80);
    c.x.go(99, true);
    for (int s = 1; s < 4; s++) c.answers("late(0, " + s + "): as if ALONE", c.x.late(0, s), 0);
    c.refuses("late(0, 0): not on its way", c.x.late(0, 0), 5);
    for (int s = 0; s < 4; s++) c.answers("late(1, " + s + ")", c.x.late(1, s), 80);
    c.answers("train(1, 11): one more than LATE, by the minute in which it came in", c.x.train(1, 11), 81);
  }

  private static void aheadOfAllKinds() {
    Check.promise(28);
    Check c = new Check("station a 0 9 9;station b 3 9;train t 5 a b 0 weight 3;train u 5 a b 98;");
    int[][] due = { // minutes, DONE, PRICE, ON, OUT
      {0, 0, 4000, 0, 2}, {1, 0, 4000, 0, 1}, {2, 0, 4000, 1, 1}, {4, 0, 4000, 1, 1}, {5, 1, 1003, 0, 1}, {98, 1, 1003, 0, 1}, {99, 1, 1003, 0, 0}};
    for (int[] d : due) {
      c.answers("ahead(" + d[0] + ", true, 0)", c.x.ahead(d[0], true, 0), d[1]);
      c.answers("ahead(" + d[0] + ", false, 1)", c.x.ahead(d[0], false, 1), d[2]);
      c.answers("ahead(" + d[0] + ", true, 4)", c.x.ahead(d[0], true, 4), d[3]);
      c.answers("ahead(" + d[0] + ", false, 5)", c.x.ahead(d[0], false, 5), d[4]);
    }
    // from now on, not from the first minute on
    c.x.go(3, true);
    c.answers("ahead(1, true, 0)", c.x.ahead(1, true, 0), 0);
    c.answers("ahead(2, true, 0)", c.x.ahead(2, true, 0), 1);
    c.answers("ahead(0, true, 4)", c.x.ahead(0, true, 4), 1);
  }

  private static void endsAddUse() {
    Check.promise(29);
    StringBuilder b = new StringBuilder();
    for (char s = 'a'; s < 'h'; s++) b.append("station ").append(s).append(" 2 9;");
    Check c = new Check(b + "train t 5 a g 0;train u 5 g a 50;");
    c.answers("ends(true, 4): six sections twice", c.x.ends(true, 4), 24);
    c.answers("ends(true, 1): in in 50, off in 51", c.x.ends(true, 1), 64);
    c.answers("ends(true, 0)", c.x.ends(true, 0), 2);
    c.x.go(30, true);
    c.answers("ends(true, 4): with what was", c.x.ends(true, 4), 24);
    c.x.go(70, true);
    c.answers("ends(false, 4)", c.x.ends(false, 4), 24);
    c.answers("ends(false, 1): nothing is ahead", c.x.ends(false, 1), 100);
  }

  private static void planOfFew() {
    Check.promise(31);
    Check c = new Check("station a 0 9;station b 1 9;train t 5 a b 0;");
    c.answers("plan(-1)", c.x.plan(-1), 1);
    c.answers("plan(0)", c.x.plan(0), 0);
    c.refuses("plan(1)", c.x.plan(1), 5);
    // five in a row, all alike in price: the first rank of all
    Check d = new Check("station a 0 1;station b 1 1;train k 9 a b 0;train l 9 a b 0;train m 9 a b 0;train n 9 a b 0;train o 9 a b 0 weight 9;");
    d.answers("plan(-1)", d.x.plan(-1), 13000);
    for (int k = 0; k < 5; k++) d.answers("plan(" + k + ")", d.x.plan(k), k);
    d.refuses("plan(5)", d.x.plan(5), 5);
    // by weight backwards: the last rank of all
    Check e = new Check("station a 0 9 9 9;station b 10 9;train k 5 a b 0;train l 5 a b 0 weight 2;train m 5 a b 0 weight 3;");
    e.answers("plan(-1)", e.x.plan(-1), 3 + 22 + 21);
    for (int k = 0; k < 3; k++) e.answers("plan(" + k + ")", e.x.plan(k), 2 - k);
    // five of them: the last of all 120 ranks; then 1, 11, 21, 31, 41 times their weights
    Check f = new Check("station a 0 9 9 9;station b 10 9;train k 5 a b 0;train l 5 a b 0 weight 2;train m 5 a b 0 weight 3;train n 5 a b 0 weight 4;train o 5 a b 0 weight 5;");
    f.x.go(1, true); // o, n and m have the tracks of a: k and l come in behind them
    f.answers("plan(-1)", f.x.plan(-1), 5 + 44 + 63 + 62 + 41);
    for (int k = 0; k < 5; k++) f.answers("plan(" + k + ")", f.x.plan(k), 4 - k);
    // with HELD ones and links as they are: m comes in in 50; l goes in 1, as k came to a, but not ahead of k to b
    e.x.hold(2, 50);
    e.x.link(1, 0, 0);
    e.answers("plan(-1): l 1, k 11, m 51", e.x.plan(-1), 2 + 11 + 153);
    e.answers("plan(0)", e.x.plan(0), 1);
    e.x.hold(0, 20);
    e.answers("plan(-1): l goes in 20, right behind k that comes in: 20, then k 30, m 51", e.x.plan(-1), 2 * 20 + 30 + 153);
    e.answers("plan(0)", e.x.plan(0), 0);
    e.x.rank(102);
    e.answers("ends(true, 0): l, asked ahead of k, goes in 21", e.x.ends(true, 0), 2 * 21 + 31 + 153);
  }

  private static void costOfEachMinute() {
    Check.promise(32);
    Check c = new Check(LATER);
    c.answers("ends(true, 0)", c.x.ends(true, 0), 21);
    c.answers("cost(0, 1): x 2, y 5 times 5", c.x.cost(0, 1), 27 - 21);
    c.answers("cost(0, 2): x 3, y 6 times 5", c.x.cost(0, 2), 33 - 21);
    c.due("cost(0, 3): y goes first, x 10, y 5", c.x.cost(0, 3), 15 - 21);
    c.due("status()", c.x.status(), 0);
    // -1 is an answer like another one
    Check d = new Check("station a 0 9 9;station b 6 9;train k 5 a b 0;train l 5 a b 0 weight 2;");
    d.x.rank(1); // k 1, l 7 times 2; the other way round 7 and 2
    d.due("cost(0, 1)", d.x.cost(0, 1), 9 - 15);
    d.x.hold(0, 5); // k in in 5, off in 7
    d.answers("ends(true, 0)", d.x.ends(true, 0), 9);
    d.answers("cost(0, 6)", d.x.cost(0, 6), 0);
    d.answers("cost(0, 7)", d.x.cost(0, 7), 1);
    d.x.hold(0, 7);
    d.due("cost(0, 6): -1", d.x.cost(0, 6), -1);
    d.due("status(): it is no NONE", d.x.status(), 0);
    d.answers("cost(0, 99)", d.x.cost(0, 99), 92);
    // one ON its last section is HELD in vain
    d.x.go(3, true);
    d.answers("train(1, 6)", d.x.train(1, 6), 2);
    d.answers("cost(1, 99)", d.x.cost(1, 99), 0);
  }

  private static void slackUpToTheFirstLoss() {
    Check.promise(33);
    Check c = new Check(LATER);
    c.answers("slack(0): 3 would do, but 1 would not", c.x.slack(0), 0);
    Check d = new Check(LATER);
    d.x.rank(1);
    d.answers("slack(1): y comes in in 3, and goes in 7", d.x.slack(1), 6);
    // PRICE may be less, and is no more than that till 18
    Check e = new Check(Check.RING.replace("train y 5 d a 0;", "train y 5 d a 0 weight 3;"));
    e.x.rank(1);
    e.answers("ends(true, 0)", e.x.ends(true, 0), 22);
    e.answers("slack(0): in in 18, 3 and 19", e.x.slack(0), 18);
    // from now on
    Check f = new Check("station a 0 9;station b 1 9;train t 5 a b 150;");
    f.x.go(52, true);
    f.answers("slack(0)", f.x.slack(0), 98);
    f.x.undo();
    f.x.go(51, true);
    f.answers("slack(0): till 150", f.x.slack(0), 99);
    f.x.go(48, true);
    f.answers("slack(0)", f.x.slack(0), 51);
    f.x.go(51, true); // minute 150
    f.answers("slack(0)", f.x.slack(0), 0);
  }

  private static void bandsLeast() {
    Check.promise(34);
    Check c = new Check("station a 0 9;station b 1 9;train t 99 a b 5;train u 5 a b 7;");
    c.answers("band(0, false): of alike ones the least", c.x.band(0, false), 0);
    c.answers("band(0, true)", c.x.band(0, true), 1001);
    c.answers("band(1, false): whenever, 1", c.x.band(1, false), 0);
    c.answers("band(1, true)", c.x.band(1, true), 1001);
    c.answers("train(1, 3): it stays", c.x.train(1, 3), 7);
    // with care: boldly x and y would be stuck
    Check d = new Check(THIRD);
    d.answers("ends(true, 0)", d.x.ends(true, 0), 11);
    d.answers("band(2, false): in in 2, off in 3", d.x.band(2, false), 2);
    d.answers("band(2, true): x 1, y 7, z 1", d.x.band(2, true), 9);
    // the least of them: u, asked first, is kept till t came, and goes a minute later
    Check f = new Check("station a 0 9;station b 10 9 9;station c 10 9;train t 5 b a 9;train u 5 b c 0 weight 2;");
    f.x.link(1, 1, 0);
    f.answers("ends(true, 0): t 1, u 10", f.x.ends(true, 0), 21);
    f.answers("band(0, false)", f.x.band(0, false), 0);
    f.answers("band(0, true): t 1, u 1", f.x.band(0, true), 3);
    // the next one: u goes as t comes in, but not in 0, in which u came in; then t is ahead of it
    Check g = new Check("station a 0 9 9;station b 10 9;train t 5 a b 0;train u 5 a b 0;");
    g.x.link(1, 0, 0);
    g.answers("ends(true, 0): t 1, u 11", g.x.ends(true, 0), 12);
    g.answers("band(0, false)", g.x.band(0, false), 1);
    g.answers("band(0, true): u 1, t 10", g.x.band(0, true), 11);
    // minutes that are past count too: the later the START, the less the DELAY
    Check e = new Check("station a 0 9;station b 1 9;train t 5 a b 199;");
    e.x.go(30, true);
    e.answers("band(0, false)", e.x.band(0, false), 30);
    e.answers("band(0, true)", e.x.band(0, true), 1);
  }

  private static void swapOfAny() {
    Check.promise(35);
    Check c = new Check("station a 0 9 9 9;station b 10 9;train k 5 a b 0;train l 5 a b 0;train m 5 a b 0;train n 99 a b 0 weight 9;");
    c.answers("train(3, 13)", c.x.train(3, 13), 0);
    for (int t = 0; t < 4; t++) for (int u = 0; u < 4; u++) if (t != u) c.answers("swap(" + t + ", " + u + "): all alike", c.x.swap(t, u), 0);
    for (int t = 0; t < 4; t++) c.refuses("swap(" + t + ", " + t + ")", c.x.swap(t, t), 4);
    c.refuses("swap(4, 0)", c.x.swap(4, 0), 2);
    c.refuses("swap(0, 4)", c.x.swap(0, 4), 2);
    c.refuses("swap(-1, 0)", c.x.swap(-1, 0), 2);
    // DONE ones may change places, in vain
    c.x.go(99, true);
    c.answers("many(3)", c.x.many(3), 3);
    c.answers("swap(0, 1)", c.x.swap(0, 1), 0);
  }

  private static void burdenWithCare() {
    Check.promise(36);
    // x against y, and z behind y: without y x and z are 8 with care, and stuck boldly
    Check c = new Check(Check.RING.replace("train y 5 d a 0;", "train y 5 d a 0 weight 9;train z 5 d a 0;"));
    c.answers("burden(false)", c.x.burden(false), 1);
    c.answers("burden(true): x 1, z 7", c.x.burden(true), 8);
    // a DONE one may be it; what it cost is not the others' price
    Check d = new Check("station a 0 9;station b 10 9;train t 5 a b 0 weight 9;train u 5 a b 0;");
    d.x.go(50, true); // t 1, u: in in 1, off in 11: 11
    d.answers("many(5)", d.x.many(5), 9 + 11);
    d.answers("burden(false)", d.x.burden(false), 1);
    d.answers("burden(true)", d.x.burden(true), 9);
    // the first of alike ones, the last one of all
    Check e = new Check("station a 0 9 9;station b 10 9;train t 5 a b 0;train u 5 b a 30;train v 99 a b 0;");
    e.answers("burden(false)", e.x.burden(false), 2);
    e.answers("burden(true)", e.x.burden(true), 2);
    // all DONE but it: the others are as they were
    Check f = new Check("station a 0 9 9;station b 1 9;train t 5 a b 0;train u 99 a b 0 weight 9;");
    f.x.go(9, true);
    f.answers("burden(false)", f.x.burden(false), 1);
    f.answers("burden(true)", f.x.burden(true), 1);
  }

  private static void loopThatCosts() {
    Check.promise(37);
    // q comes in earlier by it, and keeps r waiting: 1, 2, 1 become 1, 2, 4
    Check c = new Check("station a 0 9;station b 1 9 9;station c 1 9;station d 1 9;train p 5 a d 0;train q 5 b d 1;train r 5 c a 0;");
    c.answers("ends(true, 0)", c.x.ends(true, 0), 4);
    c.due("loop(2, 9)", c.x.loop(2, 9), 4 - 7);
    c.due("status(): below 0 is an answer", c.x.status(), 0);
    c.answers("loop(2, 4): too short for all", c.x.loop(2, 4), 0);
    // from 1 to 99
    Check d = new Check("station a 0 5;station b 1 5;train t 9 a b 0;train u 1 b a 0 weight 2;train v 99 a b 30;");
    d.answers("ends(true, 0)", d.x.ends(true, 0), 2002);
    d.answers("loop(0, 1)", d.x.loop(0, 1), 0);
    d.answers("loop(0, 8)", d.x.loop(0, 8), 0);
    d.answers("loop(0, 9)", d.x.loop(0, 9) > 0 ? 1 : 0, 1);
    d.answers("loop(0, 98): none for v", d.x.loop(0, 98), d.x.loop(0, 9));
    d.answers("loop(0, 99): v goes in 31", d.x.loop(0, 99), d.x.loop(0, 9) + 999);
    d.refuses("loop(0, 100)", d.x.loop(0, 100), 1);
    // no more than three
    Check e = new Check("station a 0 9;station b 1 9 9;station c 1 9 9 9;");
    e.answers("loop(0, 9)", e.x.loop(0, 9), 0);
    e.answers("loop(1, 9)", e.x.loop(1, 9), 0);
    e.refuses("loop(2, 9)", e.x.loop(2, 9), 3);
    e.refuses("loop(2, 0): 1 ahead of 3", e.x.loop(2, 0), 1);
    // with all else as it is: RUNS of slow ones, HELD ones, ranks
    Check g = new Check("station a 0 9 9;station b 10 9;train t 5 a b 0 slow 2;train u 5 a b 0 slow 1 weight 2;");
    g.x.rank(1);
    g.answers("ends(true, 0): t 1, u 21", g.x.ends(true, 0), 43);
    for (int s = 0; s < 2; s++) g.answers("loop(" + s + ", 9)", g.x.loop(s, 9), 0);
    g.x.hold(1, 50);
    g.answers("ends(true, 0): t 1, u in in 50, off in 51", g.x.ends(true, 0), 1 + 102);
    for (int s = 0; s < 2; s++) g.answers("loop(" + s + ", 9)", g.x.loop(s, 9), 0);
    // behind those that are there: of two as long, the one that is there is taken first
    Check f = new Check("station a 0 9;station b 1 9;station c 1 9;train t 9 a c 0;");
    f.x.shut(1, 0, true);
    f.answers("loop(1, 9): not SHUT", f.x.loop(1, 9), 999);
  }

  private static void buildAtEach() {
    Check.promise(38);
    String[] lengths = {"9", "9", "9", "9"};
    for (int s = 0; s < 3; s++) {
      // a train of 99 that fits everywhere but at one station
      StringBuilder b = new StringBuilder();
      for (int k = 0; k < 4; k++) b.append("station ").append((char) ('a' + k)).append(" 1 ").append(k == s ? "9;" : "99;");
      Check c = new Check(b + "train t 99 a d 0;");
      c.answers("build(): the only one that helps", c.x.build(), s);
      c.answers("loop(" + s + ", 99)", c.x.loop(s, 99), 999);
      c.answers("loop(" + s + ", 98)", c.x.loop(s, 98), 0);
    }
    Check c = new Check("station a 0 9 9 9;station b 1 9 9;station c 1 9 9 9;station d 1 9;");
    c.answers("build(): the first that has not 3", c.x.build(), 1);
    Check d = new Check("station a 0 9 9 9;");
    d.refuses("build(): all have 3", d.x.build(), 5);
    Check e = new Check("station a 0 9 9;");
    e.answers("build()", e.x.build(), 0);
    Check f = new Check("station a 0 9 9 9;station b 1 9 9 9;station c 1 9 9 9;station d 1 9 9 9;station e 1 9 9 9;station f 1 9 9 9;station g 1 9 9;");
    f.answers("build(): the last of seven", f.x.build(), 6);
  }

  private static void shutCountsAll() {
    Check.promise(41);
    Check c = new Check("station a 0 9 9 9;station b 1 9 9;station c 1 9;train t 5 a c 0;");
    int[][] all = {{0, 0}, {0, 1}, {0, 2}, {1, 0}, {1, 1}, {2, 0}};
    for (int i = 0; i < 6; i++) c.answers("shut(" + all[i][0] + ", " + all[i][1] + ", true)", c.x.shut(all[i][0], all[i][1], true), 5 - i);
    c.x.go(1, false);
    c.answers("train(0, 6): nowhere to come in", c.x.train(0, 6), 0);
    c.answers("shut(2, 0, false)", c.x.shut(2, 0, false), 1);
    for (int[] one : all) if (one[0] < 2) c.x.shut(one[0], one[1], false);
    c.answers("station(0, 2)", c.x.station(0, 2), 3);
    c.x.go(1, true);
    c.answers("shut(0, 0, true): t is in it, it was not FREE", c.x.shut(0, 0, true), 5);
    c.answers("track(0, 0, 1)", c.x.track(0, 0, 1), 0);
    c.answers("shut(0, 0, false)", c.x.shut(0, 0, false), 5);
  }

  private static void rankTold() {
    Check.promise(42);
    int[][] due = {{1, 0}, {10, 2}, {12, 3}, {21, 3}, {102, 3}, {120, 3}, {201, 3}, {210, 3}, {1023, 4}, {3210, 4}, {10234, 5}, {43210, 5}};
    for (int[] d : due) {
      if (d[1] < 2) continue;
      StringBuilder b = new StringBuilder("station a 0 9;station b 1 9;");
      for (int t = 0; t < d[1]; t++) b.append("train ").append((char) ('p' + t)).append(" 5 a b 0;");
      Check c = new Check(b.toString());
      String digits = String.valueOf(d[0]);
      while (digits.length() < d[1]) digits = "0" + digits;
      int same = 0;
      for (int k = 0; k < d[1]; k++) if (digits.charAt(k) - '0' == k) same++;
      if (same == d[1]) c.refuses("rank(" + d[0] + ")", c.x.rank(d[0]), 4); else c.answers("rank(" + d[0] + ")", c.x.rank(d[0]), same);
      for (int k = 0; k < d[1]; k++) c.answers("train(" + digits.charAt(k) + ", 13)", c.x.train(digits.charAt(k) - '0', 13), k);
      // a digit more or less, one twice, one that is no train
      for (int wrong : new int[] {d[0] + 1000000, digits.charAt(0) == '0' ? d[0] + 100000 : d[0] * 10, -d[0], 11111 % (int) Math.pow(10, d[1]), 98765 % (int) Math.pow(10, d[1])}) {
        c.refuses("rank(" + wrong + ")", c.x.rank(wrong), 1);
      }
    }
  }

  private static void stallAndHoldTogether() {
    Check.promise(44);
    Check c = new Check("station a 0 9;station b 1 9;station c 1 9;train t 5 a c 0;");
    c.x.go(2, true); // off in 1, in b in 2
    c.answers("train(0, 9)", c.x.train(0, 9), 0);
    c.answers("stall(0, 1)", c.x.stall(0, 1), 3);
    c.answers("train(0, 9)", c.x.train(0, 9), 1);
    c.answers("stall(0, 99)", c.x.stall(0, 99), 102);
    c.answers("train(0, 9)", c.x.train(0, 9), 100);
    c.answers("hold(0, 99): till 101, it is not there yet", c.x.hold(0, 99), 101);
    c.x.go(99, true);
    c.x.go(1, true);
    c.answers("train(0, 6)", c.x.train(0, 6), 2);
    c.x.go(1, true);
    c.answers("time(0, 1, false)", c.x.time(0, 1, false), 102);
    c.answers("time(0, 1, true)", c.x.time(0, 1, true), 102);
    c.answers("use(0): 1 to 101", c.x.use(0), 101);
  }
}
