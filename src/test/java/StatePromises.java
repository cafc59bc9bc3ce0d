/** Promises 6 to 18: what there is. */
public final class StatePromises {
  public static void main(String[] args) {
    many();
    station();
    track();
    train();
    fits();
    why();
    through();
    risks();
    weak();
    links();
    blocks();
    ring();
    section();
    Check.end();
  }

  private static void many() {
    Check.promise(6);
    Check c = new Check(Check.RING + "train z 5 a b 50 weight 4;");
    c.answers("many(0)", c.x.many(0), 4);
    c.answers("many(1)", c.x.many(1), 3);
    c.answers("many(2)", c.x.many(2), 0);
    c.answers("many(3)", c.x.many(3), 0);
    c.answers("many(4)", c.x.many(4), 3);
    c.answers("many(5)", c.x.many(5), 6000);
    c.answers("many(9)", c.x.many(9), 0);
    c.x.go(2, true);
    c.answers("many(2)", c.x.many(2), 2);
    c.answers("many(4)", c.x.many(4), 1);
    c.answers("many(6)", c.x.many(6), 1);
    c.answers("many(7)", c.x.many(7), 1);
    c.answers("many(8)", c.x.many(8), 0);
    c.x.go(12, true); // x is done in 7, y in 13: delays 1 and 7
    c.answers("many(3)", c.x.many(3), 2);
    c.answers("many(5)", c.x.many(5), 4008);
    c.answers("many(9)", c.x.many(9), 7);
    c.refuses("many(-1)", c.x.many(-1), 1);
    c.refuses("many(10)", c.x.many(10), 1);

    Check d = new Check(Check.RING);
    d.x.go(2, false);
    d.answers("many(7): both are on sections, into each other's way", d.x.many(7), 0);
    d.answers("many(8): who is on a section is not stuck", d.x.many(8), 0);
    d.x.go(2, false);
    d.answers("many(7)", d.x.many(7), 0);
    d.answers("many(8)", d.x.many(8), 1);
    d.x.shut(0, 0, true);
    d.answers("many(8)", d.x.many(8), 1);

    // one that is out and could come in, if only START had come, keeps it from being stuck
    Check e = new Check(Check.RING + "train z 5 d c 199;");
    e.x.go(4, false);
    e.answers("many(8)", e.x.many(8), 0);
    e.x.shut(3, 0, true);
    e.answers("many(8)", e.x.many(8), 1);
    Check g = new Check(Check.RING + "train z 5 a c 199;");
    g.x.go(4, false);
    g.answers("many(8)", g.x.many(8), 0);
    g.x.shut(0, 0, true);
    g.answers("many(8)", g.x.many(8), 1);
    // so does one that is held or kept by a link; nobody in, nobody stuck
    Check f = new Check(Check.MEET);
    f.answers("many(8)", f.x.many(8), 0);
    f.x.shut(0, 0, true);
    f.x.shut(2, 0, true);
    f.answers("many(8): nobody is in", f.x.many(8), 0);
    f.x.undo();
    f.x.undo();
    f.x.go(1, true);
    f.x.hold(0, 99);
    f.x.link(1, 2, 0);
    f.answers("many(8): held and linked could go", f.x.many(8), 0);
  }

  private static void station() {
    Check.promise(7);
    Check c = new Check(Check.MEET);
    int[][] due = {{0, 1, 1, 0, 50}, {4, 2, 2, 0, 30}, {5, 1, 1, 0, 50}};
    for (int s = 0; s < 3; s++) for (int what = 0; what < 5; what++) c.answers("station(" + s + ", " + what + ")", c.x.station(s, what), due[s][what]);
    c.x.go(1, true);
    c.answers("station(0, 2)", c.x.station(0, 2), 0);
    c.answers("station(0, 3)", c.x.station(0, 3), 1);
    c.x.go(1, true); // both are on sections and have a track of b kept
    c.answers("station(0, 2)", c.x.station(0, 2), 1);
    c.answers("station(1, 2)", c.x.station(1, 2), 0);
    c.answers("station(1, 3)", c.x.station(1, 3), 0);
    c.x.shut(2, 0, true);
    c.answers("station(2, 2)", c.x.station(2, 2), 0);
    c.answers("station(2, 1)", c.x.station(2, 1), 1);
    c.x.go(4, true);
    c.answers("station(1, 3)", c.x.station(1, 3), 1);
    c.refuses("station(0, -1)", c.x.station(0, -1), 1);
    c.refuses("station(0, 5)", c.x.station(0, 5), 1);
    c.refuses("station(-1, 0)", c.x.station(-1, 0), 2);
    c.refuses("station(3, 0)", c.x.station(3, 0), 2);
    c.refuses("station(3, 5)", c.x.station(3, 5), 1);
    Check d = new Check("station a 30 9 99 8;");
    d.answers("station(0, 0)", d.x.station(0, 0), 30);
    d.answers("station(0, 4)", d.x.station(0, 4), 99);
  }

  private static void track() {
    Check.promise(8);
    Check c = new Check(Check.MEET);
    c.answers("track(1, 0, 0)", c.x.track(1, 0, 0), 20);
    c.answers("track(1, 1, 0)", c.x.track(1, 1, 0), 30);
    c.refuses("track(0, 0, 1)", c.x.track(0, 0, 1), 5);
    c.answers("track(1, 1, 2)", c.x.track(1, 1, 2), 0);
    c.x.go(1, true);
    c.answers("track(0, 0, 1)", c.x.track(0, 0, 1), 0);
    c.answers("track(2, 0, 1)", c.x.track(2, 0, 1), 1);
    c.x.go(1, true);
    c.refuses("track(0, 0, 1)", c.x.track(0, 0, 1), 5);
    c.answers("track(1, 0, 1): kept", c.x.track(1, 0, 1), 1);
    c.answers("track(1, 1, 1): kept", c.x.track(1, 1, 1), 0);
    c.x.shut(1, 1, true);
    c.answers("track(1, 1, 1): shut, but it stays", c.x.track(1, 1, 1), 0);
    c.answers("track(1, 1, 2)", c.x.track(1, 1, 2), 1);
    c.answers("track(1, 0, 2)", c.x.track(1, 0, 2), 0);
    c.refuses("track(0, 0, -1)", c.x.track(0, 0, -1), 1);
    c.refuses("track(0, 0, 3)", c.x.track(0, 0, 3), 1);
    c.refuses("track(0, 1, 0)", c.x.track(0, 1, 0), 2);
    c.refuses("track(0, -1, 0)", c.x.track(0, -1, 0), 2);
    c.refuses("track(3, 0, 0)", c.x.track(3, 0, 0), 2);
    c.refuses("track(-1, 0, 0)", c.x.track(-1, 0, 0), 2);
    c.refuses("track(9, 9, 9)", c.x.track(9, 9, 9), 1);

    // the shortest track that is free and fits, the first one of several
    Check d = new Check("station a 0 30 20 20;station b 5 9;train t 15 a b 0;train u 15 a b 0;train v 15 a b 0;");
    d.x.go(1, true);
    d.answers("train(0, 8)", d.x.train(0, 8), 1);
    d.answers("train(1, 8)", d.x.train(1, 8), 2);
    d.answers("train(2, 8)", d.x.train(2, 8), 0);
    d.x.undo();
    d.x.shut(0, 1, true);
    d.x.go(1, true);
    d.answers("train(0, 8)", d.x.train(0, 8), 2);
    d.answers("train(1, 8)", d.x.train(1, 8), 0);
    d.answers("train(2, 6)", d.x.train(2, 6), 0);
    // as long as the track is enough
    Check e = new Check("station a 0 15 14;station b 5 9;train t 15 a b 0;train u 16 a b 0;");
    e.x.go(1, true);
    e.answers("train(0, 8)", e.x.train(0, 8), 0);
    e.x.go(1, true);
    e.answers("why(1)", e.x.why(1), 3);
  }

  private static void train() {
    Check.promise(9);
    Check c = new Check("station a 0 50;station b 5 20 30;station c 3 50;train p 30 c a 7 slow 1 weight 2;train q 20 a c 3 slow 3 weight 9;");
    int[][] due = {{30, 2, 0, 7, 1, 2, 0}, {20, 0, 2, 3, 3, 9, 0}};
    for (int t = 0; t < 2; t++) for (int what = 0; what < 7; what++) c.answers("train(" + t + ", " + what + ")", c.x.train(t, what), due[t][what]);
    c.answers("train(0, 10): 5 * 3 / 2 up, 3 * 3 / 2 up", c.x.train(0, 10), 8 + 5);
    c.answers("train(1, 10): 5 * 5 / 2 up, 3 * 5 / 2 up", c.x.train(1, 10), 13 + 8);
    c.answers("train(0, 13)", c.x.train(0, 13), 1);
    c.answers("train(1, 13)", c.x.train(1, 13), 0);
    for (int what : new int[] {7, 8, 9, 11, 12}) c.refuses("train(0, " + what + ")", c.x.train(0, what), 5);
    c.x.go(8, true); // p came in, in 7
    c.answers("train(0, 6)", c.x.train(0, 6), 1);
    c.answers("train(0, 7)", c.x.train(0, 7), 2);
    c.answers("train(0, 8)", c.x.train(0, 8), 0);
    c.refuses("train(0, 9)", c.x.train(0, 9), 5);
    c.x.go(1, true); // and went in 8
    c.answers("train(0, 6)", c.x.train(0, 6), 2);
    c.answers("train(0, 7)", c.x.train(0, 7), 2);
    c.answers("train(0, 8)", c.x.train(0, 8), 1);
    c.answers("train(0, 9): 5 minutes from 8 on", c.x.train(0, 9), 4);
    c.x.go(4, true);
    c.answers("train(0, 9): in the minute that comes", c.x.train(0, 9), 0);
    c.refuses("train(0, 11)", c.x.train(0, 11), 5);
    c.x.hold(0, 2);
    c.answers("train(0, 12)", c.x.train(0, 12), 15);
    c.x.go(1, true);
    c.answers("train(0, 12)", c.x.train(0, 12), 15);
    c.answers("train(0, 7)", c.x.train(0, 7), 1);
    c.x.go(1, true);
    c.refuses("train(0, 12): in that minute it is no more", c.x.train(0, 12), 5);
    // q goes in 4 and is in b in 17; p, not held from 15 on, waits for the section till then
    c.x.go(3, true);
    c.answers("train(0, 6)", c.x.train(0, 6), 2);
    c.refuses("train(0, 8): none is kept at TO", c.x.train(0, 8), 5);
    c.answers("train(0, 9)", c.x.train(0, 9), 7);
    c.x.go(20, true); // done in 25
    c.answers("train(0, 6)", c.x.train(0, 6), 3);
    c.answers("train(0, 11)", c.x.train(0, 11), 25 - 7 - 13);
    c.answers("train(1, 11): 17 + 8", c.x.train(1, 11), 25 - 3 - 21);
    for (int what : new int[] {7, 8, 9}) c.refuses("train(0, " + what + ")", c.x.train(0, what), 5);
    c.refuses("train(0, -1)", c.x.train(0, -1), 1);
    c.refuses("train(0, 14)", c.x.train(0, 14), 1);
    c.refuses("train(-1, 0)", c.x.train(-1, 0), 2);
    c.refuses("train(2, 0)", c.x.train(2, 0), 2);
    c.refuses("train(2, 14)", c.x.train(2, 14), 1);
    // the greater WEIGHT first, of alike ones the lesser number
    Check d = new Check("station a 0 50;station b 5 20;train k 1 a b 0;train l 1 a b 0 weight 5;train m 1 a b 0 weight 9;train n 1 a b 0 weight 5;train o 1 a b 0;");
    int[] places = {3, 1, 0, 2, 4};
    for (int t = 0; t < 5; t++) d.answers("train(" + t + ", 13)", d.x.train(t, 13), places[t]);
  }

  private static void fits() {
    Check.promise(10);
    Check c = new Check("station a 0 5;station b 1 10;station c 1 5 10;station d 1 9;train t 10 b c 0;train u 1 a b 0;train v 99 a b 0;");
    c.answers("fits(0)", c.x.fits(0), 6);
    c.answers("fits(1)", c.x.fits(1), 15);
    c.answers("fits(2)", c.x.fits(2), 0);
    c.x.shut(1, 0, true);
    c.answers("fits(0): shut or not", c.x.fits(0), 6);
    c.refuses("fits(-1)", c.x.fits(-1), 2);
    c.refuses("fits(3)", c.x.fits(3), 2);
  }

  private static void why() {
    Check.promise(11);
    Check c = new Check(Check.RING + "train z 5 a b 50;");
    c.answers("why(2): START doesn't count", c.x.why(2), 0);
    c.x.go(1, true);
    c.answers("why(2): x is in a", c.x.why(2), 3);
    c.answers("why(0)", c.x.why(0), 0);
    c.x.hold(0, 9);
    c.x.link(0, 0, 1);
    c.answers("why(0): held and linked don't count", c.x.why(0), 0);
    c.x.undo();
    c.x.undo();
    c.x.go(1, true);
    c.answers("why(0)", c.x.why(0), 2);
    c.answers("why(1): into the way of x", c.x.why(1), 5);
    c.x.start(2, 2);
    c.x.go(1, true);
    c.answers("why(2): the section is taken, and asked first", c.x.why(2), 4);
    c.x.go(98, true);
    c.answers("why(0)", c.x.why(0), 1);
    c.refuses("why(-1)", c.x.why(-1), 2);
    c.refuses("why(3)", c.x.why(3), 2);
    Check d = new Check(Check.RING);
    d.x.go(4, false);
    d.answers("why(0): no track", d.x.why(0), 3);
    d.answers("why(1): no track", d.x.why(1), 3);
    // to TO no track is needed
    Check e = new Check("station a 0 9;station b 1 1;train t 9 a b 0;");
    e.x.go(1, true);
    e.answers("why(0)", e.x.why(0), 0);
    // coming in can be unsafe too
    Check f = new Check(Check.MEET);
    f.x.shut(1, 1, true);
    f.answers("why(0)", f.x.why(0), 5);
    f.answers("why(1)", f.x.why(1), 0);
    f.x.shut(0, 0, true);
    f.answers("why(0)", f.x.why(0), 3);
  }

  private static void through() {
    Check.promise(12);
    Check c = new Check("station a 0 10;station b 1 10;station c 1 10;train x 5 a c 0;train y 5 b c 0;train z 5 c b 0;");
    c.answers("through(-1)", c.x.through(-1), 0);
    c.refuses("through(0)", c.x.through(0), 5);
    c.x.go(1, true);
    c.answers("through(-1)", c.x.through(-1), 3);
    // y is in the way of x; then the lesser number is first again
    c.answers("through(0)", c.x.through(0), 1);
    c.answers("through(1)", c.x.through(1), 0);
    c.answers("through(2)", c.x.through(2), 2);
    c.refuses("through(3)", c.x.through(3), 5);
    c.refuses("through(-2)", c.x.through(-2), 1);
    c.x.go(1, true);
    // y is on its last section, x on the way to the track in b that is kept for it
    c.answers("through(-1)", c.x.through(-1), 2);
    c.answers("through(0)", c.x.through(0), 0);
    c.answers("through(1)", c.x.through(1), 2);
    // not safe: as many as can be taken away
    Check d = new Check(Check.RING + "train z 5 a b 3;");
    d.x.go(4, false);
    d.answers("many(7)", d.x.many(7), 0);
    d.answers("through(-1)", d.x.through(-1), 1);
    d.answers("through(0)", d.x.through(0), 2);
    d.refuses("through(1)", d.x.through(1), 5);
  }

  private static void risks() {
    Check.promise(13);
    Check c = new Check(Check.RING);
    c.answers("risks()", c.x.risks(), 0);
    c.x.go(2, true);
    c.answers("risks()", c.x.risks(), 2);
    c.x.hold(1, 9);
    c.x.link(1, 3, 0);
    c.answers("risks(): held, linked or not", c.x.risks(), 2);
    c.x.go(3, true);
    c.answers("risks(): x is past c", c.x.risks(), 0);
    Check d = new Check(Check.MEET);
    d.x.start(0, 99);
    d.x.shut(1, 1, true);
    d.answers("risks(): whatever START", d.x.risks(), 1);
    Check e = new Check(Check.RING);
    e.x.go(4, false);
    e.answers("risks(): those that can't are none", e.x.risks(), 0);
    Check f = new Check();
    f.answers("risks()", f.x.risks(), 0);
  }

  private static void weak() {
    Check.promise(14);
    Check c = new Check(Check.RING);
    for (int s = 0; s < 4; s++) c.answers("weak(" + s + ")", c.x.weak(s), 0);
    c.x.go(2, true); // x is on the way to b
    int[] due = {0, 1, 1, 0};
    for (int s = 0; s < 4; s++) c.answers("weak(" + s + ")", c.x.weak(s), due[s]);
    c.answers("track(1, 0, 2): asking shuts nothing", c.x.track(1, 0, 2), 0);
    c.refuses("weak(-1)", c.x.weak(-1), 2);
    c.refuses("weak(4)", c.x.weak(4), 2);
    Check d = new Check(Check.RING);
    d.x.go(2, false);
    d.refuses("weak(1): not safe", d.x.weak(1), 5);
    d.refuses("weak(4)", d.x.weak(4), 2);
    Check e = new Check("station a 0 9;station b 1 3 9 9;station c 1 9;train t 5 a c 0;");
    e.x.go(1, true);
    e.answers("weak(1): either will do", e.x.weak(1), 0);
    e.x.shut(1, 1, true);
    e.answers("weak(1): not the shut one, not the short one", e.x.weak(1), 4);
    // y has to pass x on the short track, z needs the long one that x leaves
    Check f = new Check("station a 0 9;station b 1 5 9;station c 1 9;station d 1 9;train x 9 b d 0;train y 5 c a 0;train z 9 d a 0;");
    f.x.go(1, true);
    f.answers("many(4)", f.x.many(4), 0);
    f.answers("weak(1)", f.x.weak(1), 3);
    f.answers("weak(2)", f.x.weak(2), 1);
  }

  private static void links() {
    Check.promise(15);
    Check c = new Check(Check.MEET);
    c.answers("links(-1, 0)", c.x.links(-1, 0), 0);
    c.refuses("links(0, 0)", c.x.links(0, 0), 5);
    c.x.link(0, 0, 1);
    c.x.link(1, 1, 0);
    c.answers("links(-1, 0)", c.x.links(-1, 0), 2);
    int[][] due = {{0, 0, 1, 0}, {1, 1, 0, 0}};
    for (int k = 0; k < 2; k++) for (int what = 0; what < 4; what++) c.answers("links(" + k + ", " + what + ")", c.x.links(k, what), due[k][what]);
    c.refuses("links(2, 0)", c.x.links(2, 0), 5);
    c.refuses("links(-2, 0)", c.x.links(-2, 0), 1);
    c.refuses("links(0, -1)", c.x.links(0, -1), 1);
    c.refuses("links(0, 4)", c.x.links(0, 4), 1);
    c.refuses("links(9, 4)", c.x.links(9, 4), 1);
    c.refuses("links(-1, 1)", c.x.links(-1, 1), 1);
    c.refuses("links(-1, -1)", c.x.links(-1, -1), 1);
    c.x.go(1, true);
    c.answers("links(0, 3): p is in a", c.x.links(0, 3), 1);
    c.x.go(7, true); // q came to b in 6, where p never was
    c.answers("links(0, 3)", c.x.links(0, 3), 1);
    c.answers("links(1, 3)", c.x.links(1, 3), 1);
    c.x.cut(1);
    c.x.go(5, true); // q goes in 8 and is done in 12
    c.answers("links(0, 3): q came", c.x.links(0, 3), 0);
    c.answers("time(0, 0, true)", c.x.time(0, 0, true), 12);
    // the other one may be done and never come to the station
    Check d = new Check("station a 0 9;station b 1 9;station c 1 9;train t 5 a c 0;train u 5 c b 0;");
    d.x.link(0, 0, 1);
    d.x.go(2, true);
    d.answers("links(0, 3)", d.x.links(0, 3), 1);
    d.x.go(1, true); // u goes in 1 and is done in 2
    d.answers("links(0, 3)", d.x.links(0, 3), 0);
    d.answers("time(0, 0, true)", d.x.time(0, 0, true), 2);
  }

  private static void blocks() {
    Check.promise(16);
    Check c = new Check(Check.RING);
    c.refuses("blocks(0): out", c.x.blocks(0), 5);
    c.x.go(1, false);
    c.refuses("blocks(0): it can go", c.x.blocks(0), 5);
    c.x.go(1, false);
    c.refuses("blocks(0): on", c.x.blocks(0), 5);
    c.x.go(2, false);
    c.answers("blocks(0)", c.x.blocks(0), 2);
    c.answers("blocks(1)", c.x.blocks(1), 1);
    c.refuses("blocks(2)", c.x.blocks(2), 2);
    c.refuses("blocks(-1)", c.x.blocks(-1), 2);
    // the one on the section alone, whoever else is in the next station
    Check d = new Check("station a 0 9 9;station b 3 9;station c 3 9;train t 5 a c 1;train u 5 b c 0;train v 5 a b 0;");
    d.x.go(2, false); // v went towards b, where u stood till it went in 1
    d.answers("blocks(0): v is on the section", d.x.blocks(0), 4);
    d.x.go(3, false); // v is done in 4, u in 4
    d.refuses("blocks(0): it went", d.x.blocks(0), 5);
    // who has a track that fits, kept ones too; not who has another one; nobody, if all that fit are shut
    Check e = new Check("station a 0 9;station b 2 5 9;station c 5 9;station d 1 9;train t 9 a d 9;train u 5 d a 0;train v 9 c a 0;");
    e.x.go(10, false); // v goes in 1 and is in b in 6, goes on and is done in 8
    e.answers("train(0, 6)", e.x.train(0, 6), 1);
    e.answers("train(1, 6)", e.x.train(1, 6), 2);
    e.x.shut(1, 1, true);
    e.answers("blocks(0)", e.x.blocks(0), 0);
    Check f = new Check("station a 0 9;station b 2 5 9;station c 5 9;station d 1 9;train t 9 a d 0;train u 5 c a 0;train v 9 c a 0;");
    f.x.link(0, 0, 2);
    f.x.go(7, false); // u has gone first, into the short track of b, and on in 6; v went in 6 and has the long one kept
    f.answers("train(2, 6)", f.x.train(2, 6), 2);
    f.answers("blocks(0): u is on the section", f.x.blocks(0), 2);
    f.x.go(2, false);
    f.answers("blocks(0): kept", f.x.blocks(0), 4);
  }

  private static void ring() {
    Check.promise(17);
    Check c = new Check(Check.RING);
    c.answers("ring()", c.x.ring(), 0);
    c.x.go(4, false);
    c.answers("ring()", c.x.ring(), 3);
    // v waits for those in b, but none for v; all in b and c wait for each other
    Check d = new Check("station a 0 9;station b 1 9 9;station c 1 9 9;station d 1 9;"
        + "train v 5 a c 0;train w 5 b d 0;train x 5 b d 0;train y 5 c a 0;train z 5 c a 0;");
    d.x.go(1, false);
    d.answers("blocks(0)", d.x.blocks(0), 6);
    d.answers("blocks(1)", d.x.blocks(1), 24);
    d.answers("ring()", d.x.ring(), 30);
    Check e = new Check();
    e.answers("ring()", e.x.ring(), 0);
  }

  private static void section() {
    Check.promise(18);
    Check c = new Check(Check.MEET);
    c.refuses("section(0)", c.x.section(0), 5);
    c.x.go(2, true);
    c.answers("section(0)", c.x.section(0), 0);
    c.answers("section(1)", c.x.section(1), 1);
    c.refuses("section(2)", c.x.section(2), 2);
    c.refuses("section(-1)", c.x.section(-1), 2);
    c.x.go(4, true);
    c.refuses("section(0): p arrived", c.x.section(0), 5);
    c.x.go(1, true);
    c.answers("section(0)", c.x.section(0), 1);
    c.answers("section(1)", c.x.section(1), 0);
    Check d = new Check("station a 0 5;");
    d.refuses("section(0)", d.x.section(0), 2);
  }
}
