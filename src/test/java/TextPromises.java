import java.util.NoSuchElementException;

/** Promises 1 to 5, 48 and 49: the new object, the tape, texts in and out. */
public final class TextPromises {
  public static void main(String[] args) {
    newObject();
    status();
    feed();
    load();
    goodTexts();
    noToken();
    outOfPlace();
    wrongNumbers();
    wrongNames();
    oneTooMany();
    fault();
    print();
    out();
    Check.end();
  }

  private static void newObject() {
    Check.promise(1);
    Check c = new Check();
    c.due("status()", c.x.status(), 0);
    for (int what = 0; what < 10; what++) c.answers("many(" + what + ")", c.x.many(what), what == 7 ? 1 : 0);
    c.refuses("station(0, 0)", c.x.station(0, 0), 2);
    c.refuses("train(0, 0)", c.x.train(0, 0), 2);
    c.refuses("section(0)", c.x.section(0), 2);
    c.answers("go(1, true)", c.x.go(1, true), 1);
    c.due("NONE", SidingLoops.NONE, -1);
  }

  private static void status() {
    Check.promise(2);
    Check c = new Check(Check.MEET);
    c.x.many(10);
    c.due("status()", c.x.status(), 1);
    c.due("status() again", c.x.status(), 1);
    c.x.feed(0, 0, 0, 0, 0);
    c.x.fault(0);
    c.x.fault(7);
    try { c.x.out(0); } catch (NoSuchElementException e) { c.due("status() behind out", c.x.status(), 1); }
    c.due("status() behind calls that have none", c.x.status(), 1);
    c.x.train(9, 0);
    c.due("status()", c.x.status(), 2);
    c.x.train(9, 14);
    c.due("status(): 1 ahead of 2", c.x.status(), 1);
    c.x.many(0);
    c.due("status()", c.x.status(), 0);
  }

  private static void feed() {
    Check.promise(3);
    Check c = new Check();
    for (int n = 20; n <= 700; n += 20) c.due("feed", c.x.feed(0x20202020, 0x20202020, 0x20202020, 0x20202020, 0x20202020), n);
    c.due("feed the 701st byte", c.x.feed(0, 0, 0, 0, 0), -1);
    c.due("status()", c.x.status(), 0);
    c.answers("load(700)", c.x.load(700), 0);
    c.due("feed behind load", c.x.feed(0, 0, 0, 0, 0), 20);
    // highest byte of each int first: "station a 3 7 8 9 ;"
    Check d = new Check();
    d.x.feed(0x73746174, 0x696f6e20, 0x61203320, 0x37203820, 0x39203b20);
    d.answers("load(20)", d.x.load(20), 0);
    d.answers("station(0, 0)", d.x.station(0, 0), 3);
    d.answers("track(0, 2, 0)", d.x.track(0, 2, 0), 9);
  }

  private static void load() {
    Check.promise(4);
    Check c = new Check();
    c.feed("station a 0 5;");
    c.refuses("load(-1)", c.x.load(-1), 1);
    c.refuses("load(21)", c.x.load(21), 1);
    c.due("the tape stays", c.x.feed(0x20202020, 0x20202020, 0x20202020, 0x20202020, 0x20202020), 40);
    c.answers("load(40)", c.x.load(40), 0);
    c.refuses("load(1): the tape is empty", c.x.load(1), 1);
    c.answers("load(0)", c.x.load(0), 0);
    c.answers("many(0): an empty text has no stations", c.x.many(0), 0);

    // only the first n bytes count, and the rest is gone
    c.feed("station a 0 5;station b 1 5;");
    c.answers("load(14)", c.x.load(14), 0);
    c.answers("many(0)", c.x.many(0), 1);
    c.refuses("load(1)", c.x.load(1), 1);

    // with a fault all else stays, but the tape is empty
    c.reads(Check.MEET, 2);
    c.x.go(3, true);
    c.x.print();
    c.faulty("station z 0 5", 2, 13);
    c.refuses("load(1)", c.x.load(1), 1);
    c.answers("many(0)", c.x.many(0), 3);
    c.answers("many(2)", c.x.many(2), 3);
    c.answers("many(6)", c.x.many(6), 1);
    c.due("out(8)", c.x.out(8), 'a');
    c.answers("undo()", c.x.undo(), 0);

    // without one all begins anew
    c.x.go(3, true);
    c.x.rank(10);
    c.x.link(0, 1, 1);
    c.x.shut(1, 0, true);
    c.x.hold(0, 50);
    c.reads(Check.MEET, 2);
    c.answers("many(2)", c.x.many(2), 0);
    c.answers("many(6)", c.x.many(6), 0);
    c.answers("links(-1, 0)", c.x.links(-1, 0), 0);
    c.answers("event(-1, 0)", c.x.event(-1, 0), 0);
    c.answers("track(1, 0, 2)", c.x.track(1, 0, 2), 0);
    c.answers("train(0, 13)", c.x.train(0, 13), 0);
    c.refuses("train(0, 12)", c.x.train(0, 12), 5);
    c.refuses("time(0, 0, false)", c.x.time(0, 0, false), 5);
    c.answers("stood(0)", c.x.stood(0), 0);
    c.answers("use(0)", c.x.use(0), 0);
    c.answers("waits(0)", c.x.waits(0), 0);
  }

  private static void goodTexts() {
    Check.promise(4);
    Check c = new Check();
    c.reads("station a 000 01 99;station b 030 5;train c 099 a b 199;train d 1 b a 0 slow 3 weight 9;train e 1 a b 0 weight 9;train f 1 a b 0 slow 0;", 4);
    c.answers("station(1, 0)", c.x.station(1, 0), 30);
    c.answers("train(0, 0)", c.x.train(0, 0), 99);
    c.answers("train(0, 3)", c.x.train(0, 3), 199);
    c.answers("train(0, 4)", c.x.train(0, 4), 0);
    c.answers("train(0, 5)", c.x.train(0, 5), 1);
    c.answers("train(1, 4)", c.x.train(1, 4), 3);
    c.answers("train(1, 5)", c.x.train(1, 5), 9);
    c.answers("train(2, 4)", c.x.train(2, 4), 0);
    c.answers("train(2, 5)", c.x.train(2, 5), 9);
    // blanks where they are not needed, and none where they are not
    c.reads("\n\n station\n\na 0   1\n2 ;   station abcdefgh 1 1;train c1a abcdefgh 0slow1weight2;  \n", 1);
    c.answers("train(0, 5)", c.x.train(0, 5), 2);
    // nothing stays of any earlier text
    for (int i = 0; i < 3; i++) c.reads("station a 0 9 99 9;station b 1 9 99 9;station c 1 99;train t 9 a b 0 slow 3 weight 9;", 1);
    for (int i = 0; i < 3; i++) {
      c.reads("station a 0 9;station b 1 8;train t 9 a b 0;", 1);
      c.answers("train(0, 4)", c.x.train(0, 4), 0);
      c.answers("train(0, 5)", c.x.train(0, 5), 1);
      c.answers("train(0, 10)", c.x.train(0, 10), 1);
      c.answers("fits(0)", c.x.fits(0), 1);
      c.answers("station(0, 2)", c.x.station(0, 2), 1);
      c.answers("shut(0, 0, true)", c.x.shut(0, 0, true), 1);
      c.answers("why(0)", c.x.why(0), 3);
    }
    // stations may be told behind trains
    c.reads("station a 30 5;station b 1 5;train t 1 a b 0;station c 1 5 6 7;", 1);
    c.answers("many(0)", c.x.many(0), 3);
    // as many as there can be
    c.reads("station a 0 1;station b 1 1;station c 1 1;station d 1 1;station e 1 1;station f 1 1;station g 1 1 1 1;"
        + "train k 1 a b 0;train l 1 a b 0;train m 1 a b 0;train n 1 a b 0;train o 1 a b 0;", 5);
  }

  private static void noToken() {
    Check.promise(5);
    Check c = new Check();
    c.faulty("Station a 0 5;", 1, 0);
    c.faulty("station a 0 5;,", 1, 14);
    c.faulty("station a\t0 5;", 1, 9);
    c.faulty("station a 0 -5;", 1, 12);
    c.faulty("station abcdefghi 0 5;", 1, 8);
    c.faulty("stations a 0 5;", 2, 0);
    c.faulty("stationss a 0 5;", 1, 0);
    c.faulty("station a 0000 5;", 1, 10);
    c.faulty("station a 0 5 1000;", 1, 14);
    c.faulty("station a 0 5" + (char) 233 + ";", 1, 13);
    c.faulty("station a 0 5" + (char) 0, 1, 13);
    c.faulty("train a 5 b.", 4, 10);
    c.faulty("train .", 1, 6);
  }

  private static void outOfPlace() {
    Check.promise(5);
    Check c = new Check();
    String ab = "station a 0 5;station b 1 5;";
    c.faulty(";", 2, 0);
    c.faulty("5", 2, 0);
    c.faulty("a", 2, 0);
    c.faulty("slow", 2, 0);
    c.faulty("station 5", 2, 8);
    c.faulty("station ;", 2, 8);
    for (String own : new String[] {"station", "train", "slow", "weight"}) {
      c.faulty("station " + own + " 0 5;", 2, 8);
      c.faulty(ab + "train " + own + " 5 a b 0;", 2, 34);
      c.faulty(ab + "train t 5 " + own + " b 0;", 2, 38);
      c.faulty(ab + "train t 5 a " + own + " 0;", 2, 40);
    }
    c.faulty("station a b", 2, 10);
    c.faulty("station a 0 ;", 2, 12);
    c.faulty("station a 0 b", 2, 12);
    c.faulty("station a 0 5 b", 2, 14);
    c.faulty("station a 0 5 6 7 b", 2, 18);
    c.faulty("train t a", 2, 8);
    c.faulty("train t 5 5", 2, 10);
    c.faulty(ab + "train t 5 a 5", 2, 40);
    c.faulty(ab + "train t 5 a b ;", 2, 42);
    c.faulty(ab + "train t 5 a b 0 5", 2, 44);
    c.faulty(ab + "train t 5 a b 0 fast 1;", 2, 44);
    c.faulty(ab + "train t 5 a b 0 slow ;", 2, 49);
    c.faulty(ab + "train t 5 a b 0 slow 1 slow 1;", 2, 51);
    c.faulty(ab + "train t 5 a b 0 weight 1 slow 1;", 2, 53);
    c.faulty(ab + "train t 5 a b 0 weight 1 weight 1;", 2, 53);
    c.faulty(ab + "train t 5 a b 0 slow 1 weight 1 5;", 2, 60);
    // at the end: the text's length, blanks and all
    for (String begun : new String[] {"station", "station a", "station a 0", "station a 0 5", "station a 0 5 6 7 \n", ab + "train", ab + "train t ",
        ab + "train t 5", ab + "train t 5 a", ab + "train t 5 a b", ab + "train t 5 a b 0", ab + "train t 5 a b 0 slow", ab + "train t 5 a b 0 slow 1",
        ab + "train t 5 a b 0 weight", ab + "train t 5 a b 0 weight 1  "}) {
      c.faulty(begun, 2, begun.length());
    }
  }

  private static void wrongNumbers() {
    Check.promise(5);
    Check c = new Check();
    String ab = "station a 0 5;station b 1 5;";
    c.faulty("station a 31 5;", 3, 10);
    c.faulty("station a 30 0;", 3, 13);
    c.faulty("station a 30 100;", 3, 13);
    c.faulty("station a 30 5 5 100;", 3, 17);
    c.faulty("station a 30 5;station b 0 5;", 3, 25);
    c.faulty("station a 30 5;station b 31 5;", 3, 25);
    c.faulty("train t 0", 3, 8);
    c.faulty("train t 100", 3, 8);
    c.faulty(ab + "train t 5 a b 200;", 3, 42);
    c.faulty(ab + "train t 5 a b 0 slow 4;", 3, 49);
    c.faulty(ab + "train t 5 a b 0 weight 0;", 3, 51);
    c.faulty(ab + "train t 5 a b 0 weight 10;", 3, 51);
    // a number that can't be comes ahead of one too many, at one token
    c.faulty("station a 0 1 2 3 0;", 3, 18);
  }

  private static void wrongNames() {
    Check.promise(5);
    Check c = new Check();
    String ab = "station a 0 5;station b 1 5;";
    c.faulty("station a 0 5;station a", 4, 22);
    c.faulty(ab + "train a", 4, 34);
    c.faulty(ab + "train t 5 a b 0;train t", 4, 50);
    c.faulty(ab + "train t 5 a b 0;station t", 4, 52);
    c.faulty(ab + "train t 5 t", 4, 38);
    c.faulty(ab + "train t 5 z", 4, 38);
    c.faulty(ab + "train t 5 a z", 4, 40);
    c.faulty(ab + "train t 5 a a", 4, 40);
    c.faulty(ab + "train t 5 a c 0;station c 1 5;", 4, 40);
    c.faulty("station ab 0 5;station b 1 5;train t 5 a b 0;", 4, 39);
  }

  private static void oneTooMany() {
    Check.promise(5);
    Check c = new Check();
    String seven = "station a 0 1;station b 1 1;station c 1 1;station d 1 1;station e 1 1;station f 1 1;station g 1 1;";
    String five = "train k 1 a b 0;train l 1 a b 0;train m 1 a b 0;train n 1 a b 0;train o 1 a b 0;";
    c.reads(seven + five, 5);
    c.faulty(seven + "station a 99 0;", 5, 98);
    c.faulty(seven + five + "train a 0;", 5, 98 + 80);
    c.faulty(seven + five + "station", 5, 98 + 80);
    c.faulty("station a 0 1 2 3 4;", 5, 18);
    c.faulty("station a 0 1 2 3 4 0;", 5, 18);
  }

  private static void fault() {
    Check.promise(5);
    Check c = new Check();
    c.due("fault(0)", c.x.fault(0), -1);
    c.due("fault(1)", c.x.fault(1), -1);
    c.x.load(-1);
    c.due("fault(0): no load with status 0 or 9 yet", c.x.fault(0), -1);
    c.faulty("station a 0 ;", 2, 12);
    c.x.load(1);
    c.due("fault(0) of the latest with 0 or 9", c.x.fault(0), 2);
    c.due("fault(1)", c.x.fault(1), 12);
    c.due("fault(2)", c.x.fault(2), -1);
    c.due("fault(-1)", c.x.fault(-1), -1);
    c.x.load(0);
    c.due("fault(0)", c.x.fault(0), 0);
    c.due("fault(1)", c.x.fault(1), -1);
  }

  private static String printed(Check c) {
    int n = c.x.print();
    c.due("status() of print()", c.x.status(), 0);
    StringBuilder b = new StringBuilder();
    for (int i = 0; i < n; i++) b.append((char) c.x.out(i));
    return b.toString();
  }

  private static void print() {
    Check.promise(48);
    Check c = new Check();
    c.answers("print()", c.x.print(), 0);
    c.reads(" station  a 0 050 \n;station abcdefgh 30 7 99 8;train t 005 abcdefgh a 100;train u 10 a abcdefgh 9 weight 7;", 2);
    String whole = "station a 0 50;station abcdefgh 30 7 99 8;train t 5 abcdefgh a 100 slow 0 weight 1;train u 10 a abcdefgh 9 slow 0 weight 7;";
    c.due("print()", printed(c).equals(whole) ? 1 : 0, 1);
    c.x.start(0, 7);
    c.x.shut(0, 0, true);
    c.x.rank(1);
    c.due("print(): START as it is", printed(c).equals(whole.replace("a 100 slow", "a 7 slow")) ? 1 : 0, 1);
    c.x.undo();
    c.x.undo();
    c.x.undo();
    c.due("print()", printed(c).equals(whole) ? 1 : 0, 1);
    // what is printed reads as the same
    Check d = new Check();
    d.reads(whole, 2);
    d.due("print()", printed(d).equals(whole) ? 1 : 0, 1);
  }

  private static void throwsNone(Check c, int i) {
    boolean thrown = false;
    try { c.x.out(i); } catch (NoSuchElementException e) { thrown = true; }
    c.due("out(" + i + ") throws", thrown ? 1 : 0, 1);
  }

  private static void out() {
    Check.promise(49);
    Check c = new Check();
    throwsNone(c, 0);
    c.x.print();
    throwsNone(c, 0);
    c.reads("station a 0 50;", 0);
    throwsNone(c, 0);
    c.answers("print()", c.x.print(), 15);
    c.due("out(0)", c.x.out(0), 's');
    c.due("out(14)", c.x.out(14), ';');
    throwsNone(c, 15);
    throwsNone(c, -1);
    throwsNone(c, Integer.MIN_VALUE);
    throwsNone(c, Integer.MAX_VALUE);
    c.reads("station b 0 50;", 0);
    c.due("out(8): OUT stays till the next print()", c.x.out(8), 'a');
    c.x.print();
    c.due("out(8)", c.x.out(8), 'b');
  }
}
