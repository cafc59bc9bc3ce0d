/** Terms, 2 and 3: each bound of what happens in a MINUTE, of what is SAFE, STUCK, HELD, linked, from both sides. */
public final class EdgesOfMinutes {
  private static final int OUT = 0, IN = 1, ON = 2, DONE = 3;
  private static final String THREE = "station a 0 9;station b 3 9;station c 3 9;";

  public static void main(String[] args) {
    runsRoundedUpAtLast();
    sameRunBothWays();
    fitsExactly();
    freeIsNotInNotKeptNotShut();
    shortestThenFirst();
    keptShortestThenFirst();
    noTrackNeededAtTo();
    oneOnASection();
    startInItsMinute();
    comeInThenGo();
    arriveThenGo();
    heldTill();
    linksKeep();
    linksOfTheOther();
    careAtEachMove();
    safeOnesBetweenAlone();
    stuckOrNot();
    delayAndPrice();
    threeHundredMinutes();
    minute999();
    tenUndone();
    Check.end();
  }

  private static void runsRoundedUpAtLast() {
    Check.promise(9);
    for (int slow = 0; slow <= 3; slow++) {
      for (int run = 1; run <= 30; run++) {
        int due = (int) Math.ceil(run + run * 0.5 * slow);
        Check c = new Check("station a 0 9;station b " + run + " 9;train t 5 a b 0 slow " + slow + ";");
        c.answers("train(0, 10): " + run + " slow " + slow, c.x.train(0, 10), due);
        c.x.go(2, true); // in in 0, off in 1
        c.answers("train(0, 9)", c.x.train(0, 9), due - 1);
        c.x.go(80, true);
        c.answers("time(0, 1, false)", c.x.time(0, 1, false), 1 + due);
        c.answers("train(0, 11)", c.x.train(0, 11), 1);
      }
    }
    // each section by itself: 1.5 and 1.5 are 2 and 2; 1 slow 3 is 2.5, so 3, not 1 three times more by 1
    Check c = new Check("station a 0 9;station b 1 9;station c 1 9;train t 5 a c 0 slow 1;train u 5 a b 0 slow 3;");
    c.answers("train(0, 10)", c.x.train(0, 10), 4);
    c.answers("train(1, 10)", c.x.train(1, 10), 3);
  }

  private static void sameRunBothWays() {
    Check.promise(9);
    Check c = new Check("station a 30 9;station b 3 9;station c 7 9;train t 5 a c 0;train u 5 c a 0 slow 1;train v 5 b a 0;train w 5 b c 0;");
    int[] lone = {10, 5 + 11, 3, 7};
    for (int t = 0; t < 4; t++) c.answers("train(" + t + ", 10)", c.x.train(t, 10), lone[t]);
  }

  private static void fitsExactly() {
    Check.promise(10);
    Check c = new Check("station a 0 9;station b 1 10;station c 1 11;train t 10 b c 0;");
    c.answers("fits(0)", c.x.fits(0), 6);
    Check d = new Check("station a 0 10;station b 1 9;station c 1 9;train t 10 a c 0;");
    d.x.go(5, false);
    d.answers("why(0): b is by 1 too short", d.x.why(0), 3);
    Check e = new Check("station a 0 10;station b 1 10;station c 1 9;train t 10 a c 0;");
    e.x.go(5, false);
    e.answers("train(0, 6)", e.x.train(0, 6), DONE);
  }

  private static void freeIsNotInNotKeptNotShut() {
    Check.promise(7);
    Check c = new Check("station a 0 9;station b 3 9 9;station c 3 9;train t 5 a c 0;train u 5 b c 0;train v 5 b a 99;");
    c.answers("station(1, 2)", c.x.station(1, 2), 2);
    c.x.go(1, false);
    c.answers("station(1, 2): one IN", c.x.station(1, 2), 1);
    c.x.go(1, false); // t goes, by number ahead of u
    c.answers("station(1, 2): u left, one is KEPT for t", c.x.station(1, 2), 1);
    c.answers("why(2)", c.x.why(2), 0);
    c.x.shut(1, 0, true);
    c.answers("station(1, 2): the other SHUT", c.x.station(1, 2), 0);
    c.answers("why(2)", c.x.why(2), 3);
    c.x.go(2, false);
    c.answers("station(1, 2)", c.x.station(1, 2), 0);
    c.x.go(5, false); // t went on in 4
    c.answers("station(1, 2): left", c.x.station(1, 2), 1);
    c.x.shut(1, 0, false);
    c.answers("station(1, 2)", c.x.station(1, 2), 2);
  }

  private static void shortestThenFirst() {
    Check.promise(8);
    // 12 12 10 for a train of 10, 11, 12, 13
    int[] tracks = {2, 0, 0, -1};
    for (int i = 0; i < 4; i++) {
      Check c = new Check("station a 0 12 12 10;station b 1 9;train t " + (10 + i) + " a b 0;");
      c.x.go(1, false);
      if (tracks[i] < 0) c.refuses("train(0, 8)", c.x.train(0, 8), 5); else c.answers("train(0, 8)", c.x.train(0, 8), tracks[i]);
    }
    // the next best, when the best one is not FREE
    Check c = new Check("station a 0 12 11 10;station b 1 9;train t 9 a b 0;train u 9 a b 0;train v 9 a b 0;");
    c.x.go(1, false);
    for (int t = 0; t < 3; t++) c.answers("train(" + t + ", 8)", c.x.train(t, 8), 2 - t);
  }

  private static void keptShortestThenFirst() {
    Check.promise(8);
    Check c = new Check("station a 0 9 9;station b 2 12 9 9;station c 2 9;train t 9 a c 0;train u 9 c a 0;train v 9 a c 0;");
    c.x.go(2, false); // t and u go in 1
    c.answers("train(0, 8): 9, the first of two", c.x.train(0, 8), 1);
    c.answers("train(1, 8): 9, the second", c.x.train(1, 8), 2);
    c.answers("track(1, 1, 1)", c.x.track(1, 1, 1), 0);
    c.answers("track(1, 2, 1)", c.x.track(1, 2, 1), 1);
    c.x.hold(0, 9);
    c.x.hold(1, 9);
    c.x.go(2, false); // both arrive in 3, and v goes
    c.answers("train(2, 6)", c.x.train(2, 6), ON);
    c.answers("train(2, 8): 12, what is left", c.x.train(2, 8), 0);
  }

  private static void noTrackNeededAtTo() {
    Check.promise(11);
    // b is full of u, shut, and too short: t gets there
    Check c = new Check("station a 0 9;station b 2 3;station c 2 9;train t 9 a b 0;train u 3 b c 0;");
    c.x.go(1, false);
    c.x.hold(1, 50);
    c.x.shut(1, 0, true);
    c.answers("why(0)", c.x.why(0), 0);
    c.answers("train(1, 6)", c.x.train(1, 6), IN);
    c.x.go(3, false);
    c.answers("train(0, 6)", c.x.train(0, 6), DONE);
    c.answers("train(0, 11)", c.x.train(0, 11), 1);
    c.answers("station(1, 3): DONE is not IN", c.x.station(1, 3), 1);
  }

  private static void oneOnASection() {
    Check.promise(18);
    Check c = new Check("station a 0 9 9;station b 3 9 9;train t 5 a b 0;train u 5 a b 0;train v 5 b a 0;");
    c.x.go(2, false);
    c.answers("section(0)", c.x.section(0), 0);
    c.answers("why(1)", c.x.why(1), 4);
    c.answers("why(2)", c.x.why(2), 4);
    c.x.go(2, false); // t arrives in 4
    c.answers("section(0): not yet over", c.x.section(0), 0);
    c.x.go(1, false);
    c.answers("section(0): free in the minute of the arrival", c.x.section(0), 1);
    c.answers("time(0, 1, false)", c.x.time(0, 1, false), 4);
    c.answers("time(1, 0, true)", c.x.time(1, 0, true), 4);
    c.answers("why(2): nobody else", c.x.why(2), 4);
  }

  private static void startInItsMinute() {
    Check.promise(39);
    for (int start : new int[] {0, 1, 98, 99, 198, 199}) {
      Check c = new Check("station a 0 9;station b 1 9;train t 5 a b " + start + ";");
      for (int left = start; left > 0; left -= Math.min(left, 99)) c.x.go(Math.min(left, 99), true);
      c.answers("many(2)", c.x.many(2), start);
      c.answers("train(0, 6): ahead of its minute", c.x.train(0, 6), OUT);
      c.x.go(1, true);
      c.answers("train(0, 6): behind it", c.x.train(0, 6), IN);
      c.answers("time(0, 0, false)", c.x.time(0, 0, false), start);
    }
  }

  private static void comeInThenGo() {
    Check.promise(39);
    Check c = new Check("station a 0 9;station b 1 9;train t 5 a b 3;");
    c.x.go(9, true);
    c.answers("time(0, 0, false)", c.x.time(0, 0, false), 3);
    c.answers("time(0, 0, true): not in the same minute", c.x.time(0, 0, true), 4);
    c.answers("time(0, 1, false)", c.x.time(0, 1, false), 5);
    c.answers("event(-1, 0)", c.x.event(-1, 0), 3);
    for (int k = 0; k < 3; k++) c.answers("event(" + k + ", 1)", c.x.event(k, 1), k);
  }

  private static void arriveThenGo() {
    Check.promise(39);
    Check c = new Check(THREE + "train t 5 a c 0;train u 5 c a 0 weight 9;");
    c.x.shut(1, 0, true);
    c.x.go(2, false);
    c.x.shut(1, 0, false);
    c.x.hold(1, 30);
    c.x.go(4, false); // t goes in 2, arrives in 5 and goes on in 5
    c.answers("time(0, 1, false)", c.x.time(0, 1, false), 5);
    c.answers("time(0, 1, true)", c.x.time(0, 1, true), 5);
    c.refuses("track(1, 0, 1)", c.x.track(1, 0, 1), 5);
    c.answers("stood(1): no minute ended there", c.x.stood(1), 0);
    c.answers("use(0)", c.x.use(0), 3);
    c.answers("use(1)", c.x.use(1), 1);
  }

  private static void heldTill() {
    Check.promise(40);
    for (int n : new int[] {1, 2, 98, 99}) {
      Check c = new Check("station a 0 9;station b 1 9;train t 5 a b 0;");
      c.answers("hold(0, " + n + ")", c.x.hold(0, n), n);
      if (n > 1) c.x.go(n - 1, true);
      c.answers("train(0, 12)", c.x.train(0, 12), n);
      c.x.go(1, true);
      c.answers("train(0, 6): held in the last minute", c.x.train(0, 6), OUT);
      c.refuses("train(0, 12): no more", c.x.train(0, 12), 5);
      c.x.go(1, true);
      c.answers("time(0, 0, false)", c.x.time(0, 0, false), n);
    }
    Check c = new Check("station a 0 9;station b 1 9;train t 5 a b 0;");
    c.x.go(1, true);
    c.answers("hold(0, 1): this minute counts", c.x.hold(0, 1), 2);
    c.x.go(1, true);
    c.answers("train(0, 6)", c.x.train(0, 6), IN);
    c.x.go(1, true);
    c.answers("time(0, 0, true)", c.x.time(0, 0, true), 2);
  }

  private static void linksKeep() {
    Check.promise(45);
    // u is to be in b for t to leave b; one that comes in by number ahead of t
    Check c = new Check("station a 0 9 9;station b 3 9 9;station c 3 9 9;train t 5 a c 0;train u 5 b a 20;train v 5 a c 30;");
    c.x.link(0, 1, 1);
    c.x.go(19, true); // t is in b since 4
    c.answers("links(0, 3)", c.x.links(0, 3), 1);
    c.answers("why(0): asks for no link", c.x.why(0), 0);
    c.refuses("time(0, 1, true)", c.x.time(0, 1, true), 5);
    c.x.go(1, true);
    c.refuses("time(0, 1, true): kept in 19", c.x.time(0, 1, true), 5);
    c.x.go(1, true); // u comes in, in 20, behind t in rank
    c.refuses("time(0, 1, true): not come yet when t was asked", c.x.time(0, 1, true), 5);
    c.answers("links(0, 3): no more", c.x.links(0, 3), 0);
    c.x.go(1, true);
    c.answers("time(0, 1, true)", c.x.time(0, 1, true), 21);
    // of higher rank, it lets t go in the same minute
    Check d = new Check("station a 0 9 9;station b 3 9 9;station c 3 9 9;train t 5 a c 0;train u 5 b a 20 weight 2;");
    d.x.link(0, 1, 1);
    d.x.go(22, true);
    d.answers("time(0, 1, true)", d.x.time(0, 1, true), 20);
    // who came once came, though it is gone since
    Check e = new Check("station a 0 9 9;station b 3 9 9;station c 3 9 9;train t 5 a c 20;train u 5 a c 0;");
    e.x.link(0, 1, 1);
    e.x.link(0, 0, 1);
    e.x.go(40, true);
    e.answers("train(0, 11)", e.x.train(0, 11), 1);
    // at another station it keeps nobody; at TO and before it is IN neither
    Check f = new Check("station a 0 9 9;station b 3 9 9;station c 3 9 9;train t 5 a b 0;train u 5 c b 99;");
    f.x.link(0, 1, 1);
    f.x.link(0, 2, 1);
    f.x.go(20, true);
    f.answers("train(0, 11)", f.x.train(0, 11), 1);
    f.answers("links(0, 3)", f.x.links(0, 3), 0);
    // four links, of which the last one alone keeps, then the first one alone
    Check g = new Check("station a 0 9 9;station b 3 9 9;station c 3 9 9;train t 5 a c 0;train u 5 c a 50;train v 5 c b 0;");
    int[][] rows = {{1, 1, 0}, {2, 1, 0}, {1, 0, 2}, {0, 0, 1}};
    for (int k = 0; k < 4; k++) g.answers("link", g.x.link(rows[k][0], rows[k][1], rows[k][2]), k);
    g.x.go(10, true);
    for (int k = 0; k < 4; k++) for (int what = 0; what < 3; what++) g.answers("links(" + k + ", " + what + ")", g.x.links(k, what), rows[k][what]);
    int[] keeps = {0, 0, 0, 1};
    for (int k = 0; k < 4; k++) g.answers("links(" + k + ", 3)", g.x.links(k, 3), keeps[k]);
    g.refuses("time(0, 0, true): kept by the last one", g.x.time(0, 0, true), 5);
    g.answers("cut(1)", g.x.cut(1), 3);
    int[] left = {0, 2, 3};
    for (int k = 0; k < 3; k++) for (int what = 0; what < 3; what++) g.answers("links(" + k + ", " + what + ")", g.x.links(k, what), rows[left[k]][what]);
    g.answers("cut(0)", g.x.cut(0), 2);
    g.answers("cut(0)", g.x.cut(0), 1);
    for (int what = 0; what < 3; what++) g.answers("links(0, " + what + ")", g.x.links(0, what), rows[3][what]);
    g.x.go(1, true);
    g.refuses("time(0, 0, true): still kept", g.x.time(0, 0, true), 5);
    g.answers("cut(0)", g.x.cut(0), 0);
    g.x.go(1, true);
    g.answers("time(0, 0, true)", g.x.time(0, 0, true), 11);
  }

  private static void linksOfTheOther() {
    Check.promise(45);
    // the same pair the other way round, the same train for others, at other stations: all are different links
    Check c = new Check(THREE + "train t 5 a c 0;train u 5 c a 0;train v 5 a c 0;");
    c.answers("link(0, 1, 1)", c.x.link(0, 1, 1), 0);
    c.answers("link(1, 1, 0)", c.x.link(1, 1, 0), 1);
    c.answers("link(0, 1, 2)", c.x.link(0, 1, 2), 2);
    c.answers("link(0, 2, 1)", c.x.link(0, 2, 1), 3);
    for (int[] l : new int[][] {{0, 1, 1}, {1, 1, 0}, {0, 1, 2}, {0, 2, 1}}) {
      c.refuses("link(" + l[0] + ", " + l[1] + ", " + l[2] + ") again", c.x.link(l[0], l[1], l[2]), 4);
    }
    // what would be without the other one is asked as if no link was for it
    c.answers("undo()", c.x.undo(), 3);
  }

  private static void careAtEachMove() {
    Check.promise(39);
    // with care the one that comes in too must leave all a way through: p is too long for all but a shut track
    Check c = new Check(Check.MEET);
    c.x.shut(1, 1, true);
    c.x.go(1, true);
    c.answers("train(0, 6)", c.x.train(0, 6), OUT);
    c.answers("train(1, 6)", c.x.train(1, 6), IN);
    c.x.go(1, false);
    c.answers("train(0, 6): boldly", c.x.train(0, 6), IN);
    c.answers("many(7)", c.x.many(7), 0);
    c.x.go(20, true);
    c.answers("train(1, 6): a move that leaves it unsafe is none", c.x.train(1, 6), IN); // q went boldly in 1, and no further
    c.answers("train(1, 7)", c.x.train(1, 7), 1);
    c.x.shut(1, 1, false);
    c.answers("many(7)", c.x.many(7), 1);
    // not safe as it stands, but safe by the move: it goes
    Check d = new Check("station a 0 9;station b 2 9;station c 2 9;train t 5 a c 0;train u 5 b a 0;");
    d.x.go(1, false);
    d.answers("many(7): u can leave to a at once", d.x.many(7), 1);
  }

  private static void safeOnesBetweenAlone() {
    Check.promise(6);
    // neither its own station nor TO need a free track, one between does
    Check c = new Check("station a 0 9;station b 1 9;station c 1 9;train t 9 a c 0;train u 9 c a 0;");
    c.x.go(1, false);
    c.answers("many(7)", c.x.many(7), 1);
    c.x.shut(0, 0, true);
    c.x.shut(2, 0, true);
    c.answers("many(7)", c.x.many(7), 1);
    c.x.shut(1, 0, true);
    c.answers("many(7)", c.x.many(7), 0);
    c.answers("through(-1)", c.x.through(-1), 0);
    // neighbours need none; those OUT and DONE are no matter
    Check d = new Check("station a 0 9;station b 1 9;train t 9 a b 0;train u 9 b a 0;train v 99 a b 0;");
    d.x.go(1, false);
    d.x.shut(0, 0, true);
    d.x.shut(1, 0, true);
    d.answers("many(7)", d.x.many(7), 1);
    d.x.go(9, false);
    d.answers("many(3)", d.x.many(3), 2);
    d.answers("many(7)", d.x.many(7), 1);
    // an ON one is asked for where it arrives: in its way no more, in the way of others there
    Check e = new Check(Check.RING);
    e.x.go(2, true);
    e.answers("many(7)", e.x.many(7), 1);
    e.x.shut(2, 0, true);
    e.answers("many(7): x has c between", e.x.many(7), 0);
    e.x.undo();
    e.x.shut(1, 0, true); // where x has a track kept
    e.answers("many(7): y has b between, that x leaves shut", e.x.many(7), 0);
    e.answers("through(-1)", e.x.through(-1), 1);
    // who shares no station between is in nobody's way: the row is by numbers
    Check f = new Check("station a 0 9;station b 1 9;station c 1 9;station d 1 9;train t 5 d c 0;train u 5 b a 0;train v 5 c b 0;");
    f.x.go(1, false);
    for (int k = 0; k < 3; k++) f.answers("through(" + k + ")", f.x.through(k), k);
    // asked behind another question of safety, it is the state as it stands that counts
    Check g = new Check(Check.RING);
    g.x.go(2, true);
    g.answers("why(1)", g.x.why(1), 5);
    g.answers("through(0)", g.x.through(0), 0);
    g.answers("why(1)", g.x.why(1), 5);
    g.answers("through(1)", g.x.through(1), 1);
    g.answers("risks()", g.x.risks(), 2);
    g.answers("through(-1)", g.x.through(-1), 2);
  }

  private static void stuckOrNot() {
    Check.promise(6);
    String ab = "station a 0 9;station b 1 9;station c 1 9;";
    // nobody IN: not STUCK, though nobody can come in
    Check c = new Check(ab + "train t 99 a c 0;");
    c.answers("many(8)", c.x.many(8), 0);
    c.answers("ends(true, 1)", c.x.ends(true, 1), 300);
    // one IN that can't go, none else
    Check d = new Check("station a 0 9;station b 1 5;station c 1 9;train t 9 a c 0;");
    d.x.go(1, false);
    d.answers("many(8)", d.x.many(8), 1);
    d.answers("ends(true, 1)", d.x.ends(true, 1), 1);
    // one ON keeps it from being so till it has arrived, behind stalls too
    Check e = new Check("station a 0 9;station b 1 5;station c 3 9;train t 9 a c 0;train u 5 b c 0;");
    e.x.go(2, false);
    e.answers("section(1)", e.x.section(1), 1);
    e.answers("many(8)", e.x.many(8), 0);
    e.x.stall(1, 40);
    e.answers("ends(false, 1)", e.x.ends(false, 1), 45);
    e.answers("ends(false, 3)", e.x.ends(false, 3), 1);
    // all DONE is not STUCK
    Check f = new Check("station a 0 9;station b 1 9;train t 5 a b 0;");
    f.x.go(9, false);
    f.answers("many(3)", f.x.many(3), 1);
    f.answers("many(8)", f.x.many(8), 0);
    f.answers("ends(true, 3)", f.x.ends(true, 3), 0);
    // care alone does not make it so: nobody may go, but boldly both could
    Check g = new Check("station a 0 9;station b 1 9;station c 1 9;station d 1 9;station e 1 9;station f 1 9;train x 5 a f 0;train y 5 f a 0;");
    g.x.go(2, false);
    g.x.go(3, true);
    for (int t = 0; t < 2; t++) g.answers("why(" + t + ")", g.x.why(t), 5);
    g.answers("many(8)", g.x.many(8), 0);
    g.answers("ends(true, 1)", g.x.ends(true, 1), 305);
    g.answers("ends(true, 3)", g.x.ends(true, 3), 0);
    g.answers("ends(false, 1): off in 5, there in 6", g.x.ends(false, 1), 7);
    g.answers("ends(false, 3)", g.x.ends(false, 3), 1);
    // one OUT that could come in keeps it from being so, whatever START, though HELD; not once its tracks are shut
    Check h = new Check("station a 0 9;station b 1 5;station c 1 9;train t 9 a c 0;train u 5 c b 199;");
    h.x.go(1, false);
    h.x.hold(1, 99);
    h.answers("many(8)", h.x.many(8), 0);
    h.answers("ends(false, 3): u comes in 199, and is DONE in 201", h.x.ends(false, 3), 1);
    h.answers("ends(false, 1)", h.x.ends(false, 1), 202);
    h.answers("ends(true, 3): with care it never comes", h.x.ends(true, 3), 0);
    h.answers("ends(true, 1)", h.x.ends(true, 1), 301);
    h.x.shut(2, 0, true);
    h.answers("many(8)", h.x.many(8), 1);
  }

  private static void delayAndPrice() {
    Check.promise(6);
    Check c = new Check("station a 0 9 9;station b 10 9;train t 5 a b 5 weight 9;train u 5 a b 3;train v 99 a b 0 weight 4;");
    c.answers("many(5)", c.x.many(5), 14000);
    c.x.go(99, false); // u in 3, off in 4, done in 14: 1; t in 5, off in 14, done in 24: 9
    c.answers("train(0, 11)", c.x.train(0, 11), 24 - 5 - 10);
    c.answers("train(1, 11)", c.x.train(1, 11), 14 - 3 - 10);
    c.refuses("train(2, 11)", c.x.train(2, 11), 5);
    c.answers("many(5)", c.x.many(5), 9 * 9 + 1 + 4000);
    c.answers("many(9): the first one's", c.x.many(9), 9);
    // START as it is now
    Check d = new Check("station a 0 9;station b 10 9;train t 5 a b 90;");
    d.x.go(20, true);
    d.x.start(0, 10);
    d.x.go(20, true);
    d.answers("train(0, 11): in in 20, done in 31", d.x.train(0, 11), 11);
    d.answers("many(9)", d.x.many(9), 11);
  }

  private static void threeHundredMinutes() {
    Check.promise(29);
    // done in minute 299 of those ahead counts, in the next one not
    Check c = new Check("station a 0 9;station b 30 9;train t 5 a b 199;");
    c.answers("when(0)", c.x.when(0), 230);
    c.x.go(99, true);
    c.x.go(99, true);
    c.answers("when(0)", c.x.when(0), 230);
    c.x.go(3, true); // on since 200
    c.answers("ends(true, 1)", c.x.ends(true, 1), 231);
    for (int[] stall : new int[][] {{99, 329}, {99, 428}, {72, 500}}) c.answers("stall", c.x.stall(0, stall[0]), stall[1]);
    c.answers("when(0): 201 to 500 are 300 minutes", c.x.when(0), 500);
    c.answers("ends(true, 1)", c.x.ends(true, 1), 501);
    c.answers("ends(true, 2)", c.x.ends(true, 2), 1);
    c.answers("stall(0, 1)", c.x.stall(0, 1), 501);
    c.refuses("when(0)", c.x.when(0), 5);
    c.answers("ends(true, 1)", c.x.ends(true, 1), 501);
    c.answers("ends(true, 2)", c.x.ends(true, 2), 0);
    c.answers("ends(true, 0)", c.x.ends(true, 0), 1000);
    c.x.go(1, true);
    c.answers("when(0)", c.x.when(0), 501);
  }

  private static void minute999() {
    Check.promise(39);
    Check c = new Check("station a 0 9;station b 30 9;train t 99 a b 199;");
    for (int i = 0; i < 10; i++) c.x.go(99, true);
    c.refuses("go(10, true): 1000", c.x.go(10, true), 3);
    c.answers("go(9, true)", c.x.go(9, true), 999);
    c.refuses("go(1, true)", c.x.go(1, true), 3);
    c.refuses("go(99, false)", c.x.go(99, false), 3);
    c.answers("many(2)", c.x.many(2), 999);
    // what would be is not bound by it
    c.answers("ahead(99, true, 5)", c.x.ahead(99, true, 5), 1);
    c.answers("ends(true, 1)", c.x.ends(true, 1), 1299);
    c.answers("hold(0, 99)", c.x.hold(0, 99), 1098);
    c.answers("undo()", c.x.undo(), 9);
    c.answers("undo()", c.x.undo(), 8);
    c.answers("many(2)", c.x.many(2), 990);
  }

  private static void tenUndone() {
    Check.promise(47);
    Check c = new Check("station a 0 9;station b 1 9;train t 5 a b 0;");
    // ten are kept, not more: again and again, so that the kept ones take each other's places
    int minute = 0;
    for (int round = 1; round <= 5; round++) {
      for (int i = 1; i <= 9 + round; i++) {
        minute++;
        c.answers("go(1, true)", c.x.go(1, true), minute);
        c.answers("many(6)", c.x.many(6), Math.min(i, 10));
      }
      for (int left = 9; left >= 0; left--) {
        c.answers("undo()", c.x.undo(), left);
        minute--;
        c.answers("many(2)", c.x.many(2), minute);
      }
      c.refuses("undo()", c.x.undo(), 5);
      c.answers("many(2)", c.x.many(2), minute);
    }
    // load() forgets them, a refused one does not
    c.x.go(5, true);
    c.x.load(-1);
    c.answers("many(6)", c.x.many(6), 1);
    c.x.load(0);
    c.answers("many(6)", c.x.many(6), 0);
    c.refuses("undo()", c.x.undo(), 5);
    c.answers("many(0)", c.x.many(0), 0);
  }
}
