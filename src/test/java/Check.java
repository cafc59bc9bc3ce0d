/** An object under test, texts for it, and the count of answers that are not as due. */
final class Check {
  private static int wrong;
  private static int promise;
  SidingLoops x = new SidingLoops();

  /** p and q meet in b, which has room for both. */
  static final String MEET = "station a 0 50;station b 4 20 30;station c 5 50;train p 30 a c 0;train q 20 c a 0;";
  /** x and y stand in each other's way as soon as both have gone. */
  static final String RING = "station a 0 10;station b 2 10;station c 2 10;station d 2 10;train x 5 a d 0;train y 5 d a 0;";

  Check() { }

  Check(String text) { reads(text, countTrains(text)); }

  static void promise(int number) { promise = number; }

  private static int countTrains(String text) {
    int n = 0;
    for (int i = text.indexOf("train "); i >= 0; i = text.indexOf("train ", i + 1)) n++;
    return n;
  }

  void feed(String text) {
    for (int at = 0; at < text.length(); at += 20) {
      int[] v = new int[5];
      for (int k = 0; k < 20; k++) v[k / 4] = v[k / 4] << 8 | (at + k < text.length() ? text.charAt(at + k) : ' ');
      x.feed(v[0], v[1], v[2], v[3], v[4]);
    }
  }

  void reads(String text, int trains) {
    feed(text);
    answers("load: " + text, x.load(text.length()), trains);
    due("fault(0)", x.fault(0), 0);
    due("fault(1)", x.fault(1), -1);
  }

  void faulty(String text, int kind, int place) {
    feed(text);
    refuses("load: " + text, x.load(text.length()), 9);
    due("fault(0) of " + text, x.fault(0), kind);
    due("fault(1) of " + text, x.fault(1), place);
  }

  void due(String call, int got, int want) {
    if (got != want) { wrong++; System.out.println("promise " + promise + ": " + call + " answered " + got + ", due is " + want); }
  }

  void answers(String call, int got, int want) {
    due(call, got, want);
    due("status() behind " + call, x.status(), 0);
  }

  void refuses(String call, int got, int status) {
    due(call, got, -1);
    due("status() behind " + call, x.status(), status);
  }

  static void end() {
    System.out.println(wrong == 0 ? "all as due" : wrong + " not as due");
    if (wrong != 0) System.exit(1);
  }
}
