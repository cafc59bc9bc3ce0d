/** Terms, 1: each bound that the document sets to a TEXT and its TOKENS, from both sides. */
public final class EdgesOfTexts {
  private static final String AB = "station a 0 5;station b 1 5;";

  public static void main(String[] args) {
    sevenHundredBytes();
    firstBytesOnly();
    everyByteAsBlank();
    wordsOfOneToEight();
    numbersOfOneToThree();
    namesLikeOwnWords();
    tokensWithoutBlanks();
    runs();
    lengths();
    tracks();
    startsSlowsWeights();
    countsOfLines();
    leastKindOfOneToken();
    firstAlongTheText();
    emptyTexts();
    tapeStaysOrIsEmpty();
    everyTextPrintedReadsBack();
    Check.end();
  }

  private static String blanks(int n) { return " ".repeat(n); }

  /** Reads the first n bytes of what is fed. */
  private static void reads(String tape, int n, int trains, int stations) {
    Check c = new Check();
    c.feed(tape);
    c.answers("load(" + n + ") of " + tape, c.x.load(n), trains);
    c.due("fault(0)", c.x.fault(0), 0);
    c.answers("many(0)", c.x.many(0), stations);
  }

  private static void faulty(String tape, int n, int kind, int place) {
    Check c = new Check();
    c.feed(tape);
    c.refuses("load(" + n + ") of " + tape, c.x.load(n), 9);
    c.due("fault(0) of " + n + " of " + tape, c.x.fault(0), kind);
    c.due("fault(1) of " + n + " of " + tape, c.x.fault(1), place);
  }

  private static void faulty(String text, int kind, int place) { faulty(text, text.length(), kind, place); }

  private static void sevenHundredBytes() {
    Check.promise(3);
    String last = "station d 1 9;";
    String full = Check.MEET + blanks(700 - Check.MEET.length() - last.length()) + last;
    Check c = new Check();
    c.reads(full, 2);
    c.answers("many(0)", c.x.many(0), 4);
    faulty(full.substring(0, 699) + " ", 2, 700);
    faulty(full.substring(0, 699) + ".", 1, 699);
    faulty(full.substring(0, 699) + "9", 2, 700);
    faulty(blanks(699) + "s", 2, 699);
    reads(blanks(700), 700, 0, 0);
    // what does not go on the tape changes nothing of what is there
    Check d = new Check();
    d.feed(full);
    d.due("feed: full", d.x.feed(0, 0, 0, 0, 0), -1);
    d.due("feed: full", d.x.feed(-1, -1, -1, -1, -1), -1);
    d.refuses("load(701)", d.x.load(701), 1);
    d.answers("load(700)", d.x.load(700), 2);
    d.due("feed: empty", d.x.feed(0, 0, 0, 0, 0), 20);
  }

  private static void firstBytesOnly() {
    Check.promise(4);
    faulty("station a 0 12;", 13, 2, 13);
    faulty("station a 0 100;", 14, 2, 14);
    faulty("station a 0 1000;", 15, 3, 12);
    faulty("station abcdefghi 0 5;", 16, 2, 16);
    faulty("station abcdefghi 0 5;", 17, 1, 8);
    faulty("stationary", 7, 2, 7);
    faulty("stations", 7, 2, 7);
    faulty("stations", 8, 2, 0);
    faulty("station a 0 5;", 13, 2, 13);
    reads("station a 0 5;station b 1 5;", 14, 0, 1);
    reads("station a 0 5;.", 14, 0, 1);
    reads("station a 0 5; .", 15, 0, 1);
    faulty(AB + "train t 5 a b 0;", 43, 2, 43);
    reads(AB + "train t 5 a b 0;", 44, 1, 2);
    faulty(AB + "train t 5 a b 1999;", 45, 2, 45); // 199 so far
    faulty(AB + "train t 5 a b 0 slow 32", 50, 2, 50);
  }

  /** Of all bytes behind a name two alone are blanks. */
  private static void everyByteAsBlank() {
    Check.promise(4);
    for (int b = 0; b < 256; b++) {
      String text = "station a" + (char) b + "5 5;";
      if (b == 10 || b == 32) {
        reads(text, text.length(), 0, 1);
      } else if (b >= 'a' && b <= 'z') {
        reads(text, text.length(), 0, 1); // a name of two letters, and a number right behind it
      } else if (b >= '0' && b <= '9') {
        if (b - '0' <= 2) reads(text, text.length(), 0, 1); else faulty(text, 3, 9);
      } else {
        faulty(text, b == ';' ? 2 : 1, 9);
      }
    }
  }

  private static void wordsOfOneToEight() {
    Check.promise(4);
    for (int n = 1; n <= 12; n++) {
      String name = "nopqrstuvwxy".substring(0, n);
      String text = "station " + name + " 0 5;";
      if (n <= 8) reads(text, text.length(), 0, 1); else faulty(text, 1, 8);
      if (n > 8) faulty(AB + "train " + name + " 5 a b 0;", 1, 34);
      if (n > 8) faulty(AB + "train t 5 " + name + " b 0;", 1, 38);
      if (n > 8) faulty(AB + "train t 5 a b 0 " + name + " 0;", 1, 44);
      if (n > 8) faulty(name + " a 0 5;", 1, 0);
    }
    // names are told apart by all of their letters
    reads("station abcdefgh 0 5;station bbcdefgh 1 5;station abcdefgi 1 5;station abcdefg 1 5;", 83, 0, 4);
    faulty("station abcdefgh 0 5;station abcdefgh 1 5;", 4, 29);
  }

  private static void numbersOfOneToThree() {
    Check.promise(4);
    reads("station a 7 5;", 14, 0, 1);
    reads("station a 07 05;", 16, 0, 1);
    reads("station a 007 005;", 18, 0, 1);
    faulty("station a 0007 5;", 1, 10);
    faulty("station a 7 0005;", 1, 12);
    faulty("station a 7 00000000000000000000000000000005;", 1, 12);
    faulty("station a 7 4294967301;", 1, 12); // 5, if it wrapped around
    faulty("station a 7 5 4294967297 5;", 1, 14);
    faulty(AB + "train t 5 a b 4294967296;", 1, 42);
  }

  private static void namesLikeOwnWords() {
    Check.promise(4);
    String text = "station stations 0 5;station statio 1 5;station trains 1 5;station slo 1 5;train weights 5 statio slo 0;train slows 5 stations trains 0 slow 1;";
    reads(text, text.length(), 2, 4);
    for (String own : new String[] {"station", "train", "slow", "weight"}) {
      faulty("station " + own + " 0 5;", 2, 8);
      faulty(AB + "train " + own + " 5 a b 0;", 2, 34);
      faulty(AB + "train t 5 " + own + " b 0;", 2, 38);
      faulty(AB + "train t 5 a " + own + " 0;", 2, 40);
    }
  }

  private static void tokensWithoutBlanks() {
    Check.promise(4);
    String text = "station a0 5;station b1 5;train t5a b0slow3weight9;";
    reads(text, text.length(), 1, 2);
    faulty("stationa0 5;", 2, 0); // one word, as long as it goes
    faulty("station a 05;", 2, 12); // one number
    faulty("station a 0;", 2, 11);
    faulty("station a 0 5;;", 2, 14);
  }

  private static void runs() {
    Check.promise(4);
    for (int run = 0; run <= 32; run++) {
      String first = "station a " + run + " 5;", next = "station a 0 5;station b " + run + " 5;";
      if (run <= 30) reads(first, first.length(), 0, 1); else faulty(first, 3, 10);
      if (run >= 1 && run <= 30) reads(next, next.length(), 0, 2); else faulty(next, 3, 24);
    }
    faulty("station a 999 5;", 3, 10);
    // that of the first counts for nothing
    Check c = new Check("station a 30 5;station b 1 5;train t 5 a b 0;train u 5 b a 3;");
    c.answers("train(0, 10)", c.x.train(0, 10), 1);
    c.answers("train(1, 10)", c.x.train(1, 10), 1);
  }

  private static void lengths() {
    Check.promise(4);
    for (int length : new int[] {0, 1, 98, 99, 100, 999}) {
      boolean good = length >= 1 && length <= 99;
      String[] texts = {"station a 0 " + length + ";", "station a 0 5 " + length + ";", "station a 0 5 5 " + length + ";", AB + "train t " + length + " a b 0;"};
      int[] places = {12, 14, 16, 36};
      for (int i = 0; i < 4; i++) {
        if (good) reads(texts[i], texts[i].length(), i == 3 ? 1 : 0, i == 3 ? 2 : 1); else faulty(texts[i], 3, places[i]);
      }
    }
  }

  private static void tracks() {
    Check.promise(4);
    faulty("station a 0;", 2, 11);
    Check c = new Check("station a 0 7;station b 1 7 8;station c 1 7 8 9;");
    for (int s = 0; s < 3; s++) {
      c.answers("station(" + s + ", 1)", c.x.station(s, 1), s + 1);
      for (int k = 0; k <= s; k++) c.answers("track(" + s + ", " + k + ", 0)", c.x.track(s, k, 0), 7 + k);
      c.refuses("track(" + s + ", " + (s + 1) + ", 0)", c.x.track(s, s + 1, 0), 2);
    }
    faulty("station a 0 7 8 9 7;", 5, 18);
    faulty("station a 0 7 8 9 7", 5, 18);
  }

  private static void startsSlowsWeights() {
    Check.promise(4);
    for (int n : new int[] {0, 1, 2, 3, 4, 8, 9, 10, 198, 199, 200, 999}) {
      trainEnds(n + "", n <= 199, 42);
      trainEnds("0 slow " + n, n <= 3, 49);
      trainEnds("0 weight " + n, n >= 1 && n <= 9, 51);
      trainEnds("0 slow 0 weight " + n, n >= 1 && n <= 9, 58);
    }
  }

  private static void trainEnds(String end, boolean good, int place) {
    String text = AB + "train t 5 a b " + end + ";";
    if (good) reads(text, text.length(), 1, 2); else faulty(text, 3, place);
  }

  private static void countsOfLines() {
    Check.promise(4);
    StringBuilder text = new StringBuilder();
    for (int s = 0; s < 7; s++) {
      text.append("station ").append((char) ('a' + s)).append(" 1 5;");
      reads(text.toString(), text.length(), 0, s + 1);
    }
    faulty(text + "station h 1 5;", 5, text.length());
    for (int t = 0; t < 5; t++) {
      text.append("train ").append((char) ('k' + t)).append(" 5 a g 0;");
      reads(text.toString(), text.length(), t + 1, 7);
    }
    faulty(text + "train p 5 a g 0;", 5, text.length());
    faulty(text + " \n train", 5, text.length() + 3);
    faulty(text + "station h 1 5;", 5, text.length());
    faulty(text + "stations", 2, text.length());
    // the seventh station may be told behind the fifth train
    String late = "station a 0 5;station b 1 5;station c 1 5;station d 1 5;station e 1 5;station f 1 5;"
        + "train k 5 a b 0;train l 5 a b 0;train m 5 a b 0;train n 5 a b 0;train o 5 a b 0;station g 1 5;";
    reads(late, late.length(), 5, 7);
  }

  /** The fourth length may be several things that it must not: the least of their kinds is told. */
  private static void leastKindOfOneToken() {
    Check.promise(5);
    faulty("station a 0 1 2 3 1000;", 1, 18);
    faulty("station a 0 1 2 3 .", 1, 18);
    faulty("station a 0 1 2 3 x;", 2, 18);
    faulty("station a 0 1 2 3 slow", 2, 18);
    faulty("station a 0 1 2 3", 2, 17);
    faulty("station a 0 1 2 3 0;", 3, 18);
    faulty("station a 0 1 2 3 100;", 3, 18);
    faulty("station a 0 1 2 3 99;", 5, 18);
  }

  private static void firstAlongTheText() {
    Check.promise(5);
    faulty("station a 31 0;.", 3, 10);
    faulty("station a 0 5;station a 0 0;", 4, 22);
    faulty(AB + "train a 0 z z 200 slow 9;", 4, 34);
    faulty(AB + "train t 0 z z 200 slow 9;", 3, 36);
    faulty(AB + "train t 5 z z 200 slow 9;", 4, 38);
    faulty(AB + "train t 5 a a 200 slow 9;", 4, 40);
    faulty(AB + "train t 5 a b 200 slow 9;", 3, 42);
    faulty(AB + "train t 5 a b 0 slow 9 weight 0;", 3, 49);
    faulty(AB + "train t 5 a b 0 slow 3 weight 0.", 3, 58);
    faulty(AB + "train t 5 a b 0 slow 3 weight 9.", 1, 59);
  }

  private static void emptyTexts() {
    Check.promise(4);
    reads("", 0, 0, 0);
    reads("station a 0 5;", 0, 0, 0);
    reads(" ", 1, 0, 0);
    reads("\n", 1, 0, 0);
    reads(" \n \n  ", 6, 0, 0);
    faulty(" \n ;", 2, 3);
    // a line without trains, trains without more than two stations
    reads("station a 0 5;", 14, 0, 1);
    faulty("train t 5 a b 0;", 4, 10);
    faulty("station a 0 5;train t 5 a b 0;", 4, 26);
    faulty("station a 0 5;train t 5 a a 0;", 4, 26);
  }

  private static void tapeStaysOrIsEmpty() {
    Check.promise(4);
    Check c = new Check();
    c.feed("station a 0 5;");
    c.refuses("load(-1)", c.x.load(-1), 1);
    c.refuses("load(21)", c.x.load(21), 1);
    c.answers("load(20)", c.x.load(20), 0);
    c.answers("many(0)", c.x.many(0), 1);
    c.due("feed", c.x.feed(0x73746174, 0x696f6e20, 0x61203320, 0x37203820, 0x39203b20), 20);
    c.answers("load(0)", c.x.load(0), 0);
    c.answers("many(0)", c.x.many(0), 0);
    c.refuses("load(1): load(0) emptied the tape", c.x.load(1), 1);
    c.due("feed", c.x.feed(0x73746174, 0x696f6e20, 0x61203320, 0x37203820, 0x39203b2e), 20);
    c.refuses("load(20)", c.x.load(20), 9);
    c.due("fault(1)", c.x.fault(1), 19);
    c.refuses("load(1): so did the one with a fault", c.x.load(1), 1);
    c.due("fault(1): of the latest with 0 or 9", c.x.fault(1), 19);
    c.due("feed", c.x.feed(0, 0, 0, 0, 0), 20);
  }

  /** The longest text that print() can write, and numbers of one to three digits. */
  private static void everyTextPrintedReadsBack() {
    Check.promise(48);
    StringBuilder text = new StringBuilder();
    for (int s = 0; s < 7; s++) text.append("station abcdefg").append((char) ('a' + s)).append(" 30 99 99 99;");
    for (int t = 0; t < 5; t++) text.append("train nopqrst").append((char) ('a' + t)).append(" 99 abcdefga abcdefgg 199 slow 3 weight 9;");
    printsAlike(text.toString());
    for (int start : new int[] {0, 1, 9, 10, 11, 19, 20, 90, 99, 100, 101, 109, 110, 190, 198, 199}) {
      printsAlike("station a 0 5;station b 10 9 10 99;train t " + (start / 3 + 1) + " b a " + start + " slow 0 weight 1;");
    }
  }

  private static void printsAlike(String text) {
    Check c = new Check(text);
    c.answers("print()", c.x.print(), text.length());
    StringBuilder out = new StringBuilder();
    for (int i = 0; i < Math.min(text.length(), 400); i++) out.append((char) c.x.out(i));
    c.due("out of " + text, text.startsWith(out.toString()) ? 1 : 0, 1);
    if (text.length() > 400) c.due("the last byte", c.x.out(text.length() - 1), ';');
    int thrown = 0;
    try { c.x.out(text.length()); } catch (java.util.NoSuchElementException e) { thrown = 1; }
    c.due("out() behind the end throws", thrown, 1);
  }
}
