/** Promises 19 to 27: what was. */
public final class PastPromises {
  /** Two behind each other, with room for both in each station. */
  private static final String BEHIND = "station a 0 9 9;station b 2 9 9;station c 2 9 9;train x 5 a c 0;train y 5 a c 0;";

  public static void main(String[] args) {
    time();
    together();
    passes();
    stood();
    late();
    event();
    use();
    gone();
    waits();
    Check.end();
  }

  /** MEET to its end: p waits in b from 5 to 6, q passes there in 6; done in 11 and 10. */
  private static Check met() {
    Check c = new Check(Check.MEET);
    c.x.go(15, true);
    return c;
  }

  /** BEHIND, both held in b: x is there from 3, y from 5 on. */
  private static Check behind() {
    Check c = new Check(BEHIND);
    c.x.go(3, true);
    c.x.hold(0, 5);
    c.x.go(1, true);
    c.x.hold(1, 4);
    c.x.go(20, true);
    return c;
  }

  private static void time() {
    Check.promise(19);
    Check c = new Check(Check.MEET);
    c.refuses("time(0, 0, false): not yet", c.x.time(0, 0, false), 5);
    c.x.go(15, true);
    int[][] came = {{0, 5, 11}, {10, 6, 0}};
    for (int t = 0; t < 2; t++) for (int s = 0; s < 3; s++) c.answers("time(" + t + ", " + s + ", false)", c.x.time(t, s, false), came[t][s]);
    c.answers("time(0, 0, true)", c.x.time(0, 0, true), 1);
    c.answers("time(0, 1, true)", c.x.time(0, 1, true), 6);
    c.refuses("time(0, 2, true): never", c.x.time(0, 2, true), 5);
    c.answers("time(1, 2, true)", c.x.time(1, 2, true), 1);
    c.answers("time(1, 1, true)", c.x.time(1, 1, true), 6);
    c.refuses("time(1, 0, true)", c.x.time(1, 0, true), 5);
    c.refuses("time(2, 0, true)", c.x.time(2, 0, true), 2);
    c.refuses("time(-1, 0, true)", c.x.time(-1, 0, true), 2);
    c.refuses("time(0, 3, true)", c.x.time(0, 3, true), 2);
    c.refuses("time(0, -1, true)", c.x.time(0, -1, true), 2);
  }

  private static void together() {
    Check.promise(20);
    Check c = met();
    c.refuses("together(0, 1, false): never", c.x.together(0, 1, false), 5);
    c.refuses("together(0, 1, true): never", c.x.together(0, 1, true), 5);
    c.refuses("together(1, 1, true)", c.x.together(1, 1, true), 4);
    c.refuses("together(0, 2, true)", c.x.together(0, 2, true), 2);
    c.refuses("together(2, 2, true)", c.x.together(2, 2, true), 2);
    c.refuses("together(-1, 0, true)", c.x.together(-1, 0, true), 2);
    Check d = new Check(Check.MEET);
    d.x.go(5, true);
    d.x.hold(0, 5);
    d.x.hold(1, 3);
    d.x.go(20, true);
    d.answers("together(0, 1, false)", d.x.together(0, 1, false), 1);
    d.answers("together(0, 1, true)", d.x.together(0, 1, true), 6);
    d.answers("together(1, 0, false)", d.x.together(1, 0, false), 1);
    d.answers("together(1, 0, true)", d.x.together(1, 0, true), 6);
    Check e = behind();
    e.answers("together(0, 1, false): the first one", e.x.together(0, 1, false), 0);
    e.answers("together(0, 1, true)", e.x.together(0, 1, true), 0);
  }

  private static void passes() {
    Check.promise(21);
    Check c = met();
    c.answers("passes(0, 1)", c.x.passes(0, 1), 0);
    c.refuses("passes(0, 0)", c.x.passes(0, 0), 4);
    c.refuses("passes(0, 2)", c.x.passes(0, 2), 2);
    c.refuses("passes(-1, 0)", c.x.passes(-1, 0), 2);
    Check e = behind();
    e.answers("passes(0, 1)", e.x.passes(0, 1), 2);
    e.answers("passes(1, 0)", e.x.passes(1, 0), 2);
    for (int i = 0; i < 3; i++) e.x.undo();
    e.x.undo();
    e.x.undo();
    e.answers("passes(0, 1): undone", e.x.passes(0, 1), 0);
  }

  private static void stood() {
    Check.promise(22);
    Check c = met();
    int[] due = {1, 1, 1};
    for (int s = 0; s < 3; s++) c.answers("stood(" + s + ")", c.x.stood(s), due[s]);
    c.refuses("stood(3)", c.x.stood(3), 2);
    c.refuses("stood(-1)", c.x.stood(-1), 2);
    Check e = behind(); // in a: x 0, y 0 to 2; in b: x 3 to 7, y 5 to 7 (x is first in 8), 8, 9
    e.answers("stood(0)", e.x.stood(0), 4);
    e.answers("stood(1)", e.x.stood(1), 5 + 5);
    e.answers("stood(2): at TO it is done", e.x.stood(2), 0);
  }

  private static void late() {
    Check.promise(23);
    Check c = new Check(Check.MEET);
    c.refuses("late(0, 0): not yet", c.x.late(0, 0), 5);
    c.x.go(15, true);
    int[][] due = {{0, 0, 1}, {0, 0, 0}};
    for (int t = 0; t < 2; t++) for (int s = 0; s < 3; s++) c.answers("late(" + t + ", " + s + ")", c.x.late(t, s), due[t][s]);
    c.refuses("late(2, 0)", c.x.late(2, 0), 2);
    c.refuses("late(0, 3)", c.x.late(0, 3), 2);
    c.refuses("late(-1, 0)", c.x.late(-1, 0), 2);
    c.refuses("late(0, -1)", c.x.late(0, -1), 2);
    Check d = new Check("station a 0 9;station b 3 9;station c 5 9;station d 1 9;train t 5 c a 4 slow 1;");
    d.x.hold(0, 6);
    d.x.go(99, true); // in c in 6, off in 7, in b in 15, in a in 20
    d.answers("late(0, 2): 6 for 4", d.x.late(0, 2), 2);
    d.answers("late(0, 1): 15 for 4 + 1 + 8", d.x.late(0, 1), 2);
    d.answers("late(0, 0): 20 for 4 + 1 + 8 + 5", d.x.late(0, 0), 2);
    d.refuses("late(0, 3): not on its way", d.x.late(0, 3), 5);
    // START as it is: earlier than the train could come in
    Check e = new Check("station a 0 9;station b 3 9;train t 5 a b 50;");
    e.x.go(10, true);
    e.x.start(0, 2);
    e.x.go(10, true);
    e.answers("late(0, 0)", e.x.late(0, 0), 8);
  }

  private static void event() {
    Check.promise(24);
    Check c = new Check(Check.MEET);
    c.answers("event(-1, 0)", c.x.event(-1, 0), 0);
    c.refuses("event(0, 0)", c.x.event(0, 0), 5);
    c.x.go(15, true);
    int[][] due = {{0, 0, 0, 0}, {1, 0, 0, 2}, {0, 1, 1, 0}, {1, 1, 1, 2}, {0, 2, 5, 1}, {1, 2, 6, 1}, {0, 1, 6, 1}, {1, 1, 6, 1}, {1, 2, 10, 0}, {0, 2, 11, 2}};
    c.answers("event(-1, 0)", c.x.event(-1, 0), 10);
    for (int k = 0; k < 10; k++) for (int what = 0; what < 4; what++) c.answers("event(" + k + ", " + what + ")", c.x.event(k, what), due[k][what]);
    c.refuses("event(10, 0)", c.x.event(10, 0), 5);
    c.refuses("event(-2, 0)", c.x.event(-2, 0), 1);
    c.refuses("event(0, 4)", c.x.event(0, 4), 1);
    c.refuses("event(0, -1)", c.x.event(0, -1), 1);
    c.refuses("event(99, 4)", c.x.event(99, 4), 1);
    c.refuses("event(-1, 1)", c.x.event(-1, 1), 1);
    c.refuses("event(-1, -1)", c.x.event(-1, -1), 1);
    // arrivals by numbers, though the rank is another one
    Check d = new Check("station a 0 9;station b 3 9;station c 3 9;train t 5 b a 0;train u 5 c b 0 weight 2;");
    d.x.go(9, false);
    int[] trains = {1, 0, 1, 0, 0, 1};
    for (int k = 0; k < 6; k++) d.answers("event(" + k + ", 0)", d.x.event(k, 0), trains[k]);
    // as many as there can ever be: five trains through seven stations
    StringBuilder b = new StringBuilder();
    for (char s = 'a'; s < 'h'; s++) b.append("station ").append(s).append(" 1 9 9;");
    for (char t = 'k'; t < 'p'; t++) b.append("train ").append(t).append(" 9 a g 0;");
    Check e = new Check(b.toString());
    e.x.go(99, true);
    e.answers("many(3)", e.x.many(3), 5);
    e.answers("event(-1, 0)", e.x.event(-1, 0), 65);
    e.answers("event(64, 0)", e.x.event(64, 0), 4);
    e.answers("event(64, 3)", e.x.event(64, 3), 6);
    e.answers("gone(5, -1)", e.x.gone(5, -1), 5);
    e.answers("gone(5, 4)", e.x.gone(5, 4), 4);
  }

  private static void use() {
    Check.promise(25);
    Check c = new Check(Check.MEET);
    c.answers("use(0)", c.x.use(0), 0);
    c.x.go(2, true);
    c.answers("use(0)", c.x.use(0), 1);
    c.x.go(13, true);
    c.answers("use(0)", c.x.use(0), 8);
    c.answers("use(1)", c.x.use(1), 10);
    c.refuses("use(2)", c.x.use(2), 2);
    c.refuses("use(-1)", c.x.use(-1), 2);
    Check d = new Check(Check.MEET);
    d.x.go(3, true);
    d.x.stall(0, 50);
    d.x.go(97, true);
    d.answers("use(0): p 1 to 54, q once p is off", d.x.use(0), 54 + 4);
  }

  private static void gone() {
    Check.promise(26);
    Check c = new Check(Check.MEET);
    c.answers("gone(0, -1)", c.x.gone(0, -1), 0);
    c.refuses("gone(0, 0)", c.x.gone(0, 0), 5);
    c.x.go(15, true);
    for (int k = 0; k < 2; k++) {
      c.answers("gone(" + k + ", -1)", c.x.gone(k, -1), 2);
      c.answers("gone(" + k + ", 0)", c.x.gone(k, 0), k);
      c.answers("gone(" + k + ", 1)", c.x.gone(k, 1), 1 - k);
      c.refuses("gone(" + k + ", 2)", c.x.gone(k, 2), 5);
    }
    c.refuses("gone(0, -2)", c.x.gone(0, -2), 1);
    c.refuses("gone(2, -2)", c.x.gone(2, -2), 1);
    c.refuses("gone(2, -1)", c.x.gone(2, -1), 2);
    c.refuses("gone(-1, 0)", c.x.gone(-1, 0), 2);
  }

  private static void waits() {
    Check.promise(27);
    Check c = met();
    c.answers("waits(0)", c.x.waits(0), 2);
    c.answers("waits(1)", c.x.waits(1), 1);
    c.refuses("waits(2)", c.x.waits(2), 2);
    c.refuses("waits(-1)", c.x.waits(-1), 2);
    Check e = behind();
    e.answers("waits(0)", e.x.waits(0), 1 + 5);
    e.answers("waits(1)", e.x.waits(1), 3 + 5);
    Check d = new Check(Check.RING);
    d.x.go(99, false); // both are stuck from 3 on
    d.answers("waits(0)", d.x.waits(0), 1 + 96);
    d.answers("stood(1)", d.x.stood(1), 96);
    d.refuses("together(0, 1, true)", d.x.together(0, 1, true), 5);
  }
}
