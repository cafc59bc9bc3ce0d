import java.util.NoSuchElementException;

/** Runs of calls made by a fixed row of numbers: the class and the model have to answer alike. */
public final class AgainstModel {
  private final Draw draw;
  private int wrong;
  private String history = "";

  private AgainstModel(int seed) { draw = new Draw(seed); }

  private int pick(int n) { return draw.pick(n); }

  private boolean coin() { return draw.coin(); }

  private void due(String call, int got, int want, SidingLoops x, Model m) {
    history += call + " = " + want + (m.status != 0 ? " s" + m.status : "") + "\n";
    if (got != want || x.status() != m.status) {
      wrong++;
      System.out.println(history + "^ answered " + got + " status " + x.status() + ", due is " + want + " status " + m.status);
    }
  }

  public static void main(String[] args) {
    int runs = args.length > 0 ? Integer.parseInt(args[0]) : 1500;
    int first = args.length > 1 ? Integer.parseInt(args[1]) : 0;
    for (int run = first; run < first + runs; run++) {
      AgainstModel one = new AgainstModel(run);
      one.run(run % 10 == 9);
      if (one.wrong > 0) { System.out.println("run " + run); System.exit(1); }
    }
    System.out.println(runs + " runs alike");
  }

  private void run(boolean broken) {
    SidingLoops x = new SidingLoops();
    Model m = new Model();
    int texts = 1 + pick(4), calls = (120 + pick(100)) / texts;
    for (; texts > 0; texts--) {
      boolean dense = coin();
      load(x, m, broken ? brokenText() : dense ? draw.denseText() : draw.text(), broken);
      boolean care = pick(3) != 0 && !dense;
      for (int i = 0; i < calls && wrong == 0; i++) {
        if (pick(3) == 0) act(x, m, care); else if (pick(12) == 0) dear(x, m); else ask(x, m);
      }
    }
  }

  private static final String[] BITS = {"station", "train", "slow", "weight", "a", "b", "c", "dd", "ninelette", "eightlet", "0", "1", "5", "30", "31", "99", "100", "199", "200",
    "999", "0007", "007", ";", ";", ";", "A", "-1", "\t", "é", "slow 3", "weight 9", "station e 5 5;", "station f 1 9 9 9;", "train g 5 a b 0;", "b a", " "};

  /** A text that is mostly right, with a few tokens changed, put in or left out. */
  private String brokenText() {
    StringBuilder b = new StringBuilder("station a 0 9;station b 3 9 4;");
    for (int i = pick(8); i > 0; i--) b.append(coin() ? "station " + (char) ('c' + i) + " 4 9 8 7;" : "train " + (char) ('k' + i) + " 4 a b 7 slow 1 weight 2;");
    String[] row = b.toString().replace(";", " ;").split(" ");
    StringBuilder text = new StringBuilder();
    int changes = pick(4);
    int at = pick(row.length);
    for (int i = 0; i < row.length; i++) {
      String token = row[i];
      if (changes > 0 && (i == at || pick(row.length) == 0)) {
        changes--;
        int how = pick(3);
        token = how == 0 ? "" : how == 1 ? BITS[pick(BITS.length)] : token + " " + BITS[pick(BITS.length)];
      }
      boolean glue = pick(6) == 0;
      text.append(token).append(glue ? "" : pick(5) == 0 ? "\n " : " ");
    }
    return pick(6) == 0 ? text.substring(0, pick(text.length())) : text.toString();
  }

  private void load(SidingLoops x, Model m, String text, boolean broken) {
    byte[] bytes = new byte[(text.length() + 19) / 20 * 20];
    for (int i = 0; i < bytes.length; i++) bytes[i] = (byte) (i < text.length() ? text.charAt(i) : ' ');
    for (int i = 0; i < bytes.length; i += 20) {
      int[] v = new int[5];
      for (int k = 0; k < 20; k++) v[k / 4] = v[k / 4] << 8 | bytes[i + k] & 255;
      due("feed", x.feed(v[0], v[1], v[2], v[3], v[4]), m.feed(v[0], v[1], v[2], v[3], v[4]), x, m);
    }
    int n = pick(30) == 0 ? pick(3) - 1 : pick(30) == 0 ? bytes.length + 1 : Math.min(text.length(), 700);
    due("load(" + n + ") " + text, x.load(n), m.load(n), x, m);
    for (int what = -1; what < 3; what++) due("fault(" + what + ")", x.fault(what), m.fault(what), x, m);
  }

  private static final int[] WILD = {Integer.MIN_VALUE, Integer.MAX_VALUE, -1000, 1000, Integer.MIN_VALUE + 1, Integer.MAX_VALUE - 1, 64, 32};

  private int train(Model m) { return pick(100) == 0 ? WILD[pick(8)] : pick(15) == 0 ? pick(12) - 3 : pick(Math.max(1, m.w.trains.size())); }
  private int station(Model m) { return pick(100) == 0 ? WILD[pick(8)] : pick(15) == 0 ? pick(14) - 3 : pick(Math.max(1, m.w.stations.size())); }
  private int section(Model m) { return pick(100) == 0 ? WILD[pick(8)] : pick(15) == 0 ? pick(12) - 3 : pick(Math.max(1, m.w.stations.size() - 1)); }
  private int what(int most) { return pick(150) == 0 ? WILD[pick(8)] : pick(20) == 0 ? (coin() ? -1 - pick(3) : most + 1 + pick(3)) : pick(most + 1); }
  private int minutes() { return pick(150) == 0 ? WILD[pick(8)] : pick(20) == 0 ? (coin() ? -pick(3) : 99 + pick(3)) : pick(10) == 0 ? 1 + pick(99) : 1 + pick(8); }
  private int k(int most) { return pick(100) == 0 ? WILD[pick(8)] : pick(10) == 0 ? -2 + pick(2) : pick(3) == 0 ? -1 : pick(most); }

  private void act(SidingLoops x, Model m, boolean care) {
    int t = train(m), u = train(m), s = station(m), n = minutes(), k = pick(8) == 0 ? k(6) - 2 : pick(3);
    boolean yes = coin(), careful = pick(8) == 0 ? !care : care;
    int row = 0;
    for (int i = 0; i < m.w.trains.size(); i++) row = row * 10 + m.w.rank.get((i + pick(2)) % m.w.trains.size());
    if (coin() && m.w.trains.size() > 1) {
      int a = pick(m.w.trains.size()), b = pick(m.w.trains.size());
      row = 0;
      for (int i = 0; i < m.w.trains.size(); i++) row = row * 10 + m.w.rank.get(i == a ? b : i == b ? a : i);
    }
    if (pick(20) == 0) row = pick(3) == 0 ? -row : coin() ? row * 10 : WILD[pick(8)];
    int at = m.w.minute + pick(30) - 10;
    switch (pick(15)) {
      case 0: due("hold(" + t + ", " + n + ")", x.hold(t, n), m.hold(t, n), x, m); break;
      case 1: due("shut(" + s + ", " + k + ", " + yes + ")", x.shut(s, k, yes), m.shut(s, k, yes), x, m); break;
      case 2: due("rank(" + row + ")", x.rank(row), m.rank(row), x, m); break;
      case 3: due("start(" + t + ", " + at + ")", x.start(t, at), m.start(t, at), x, m); break;
      case 4: due("stall(" + t + ", " + n + ")", x.stall(t, n), m.stall(t, n), x, m); break;
      case 5: case 6: due("link(" + t + ", " + s + ", " + u + ")", x.link(t, s, u), m.link(t, s, u), x, m); break;
      case 7: due("cut(" + k + ")", x.cut(k), m.cut(k), x, m); break;
      case 8: case 9: due("undo()", x.undo(), m.undo(), x, m); break;
      default: due("go(" + n + ", " + careful + ")", x.go(n, careful), m.go(n, careful), x, m);
    }
  }

  private void dear(SidingLoops x, Model m) {
    int t = train(m), u = train(m), s = station(m), n = minutes();
    boolean yes = coin();
    switch (pick(9)) {
      case 0: int k = k(6); due("plan(" + k + ")", x.plan(k), m.plan(k), x, m); break;
      case 1: due("cost(" + t + ", " + n + ")", x.cost(t, n), m.cost(t, n), x, m); break;
      case 2: due("slack(" + t + ")", x.slack(t), m.slack(t), x, m); break;
      case 3: due("band(" + t + ", " + yes + ")", x.band(t, yes), m.band(t, yes), x, m); break;
      case 4: due("swap(" + t + ", " + u + ")", x.swap(t, u), m.swap(t, u), x, m); break;
      case 5: due("burden(" + yes + ")", x.burden(yes), m.burden(yes), x, m); break;
      case 6: int length = pick(8) == 0 ? pick(120) - 10 : 5 + pick(40); due("loop(" + s + ", " + length + ")", x.loop(s, length), m.loop(s, length), x, m); break;
      case 7: due("build()", x.build(), m.build(), x, m); break;
      default: due("when(" + t + ")", x.when(t), m.when(t), x, m);
    }
  }

  private void ask(SidingLoops x, Model m) {
    int t = train(m), u = train(m), s = station(m);
    boolean yes = coin();
    int w, k;
    switch (pick(26)) {
      case 0: w = what(9); due("many(" + w + ")", x.many(w), m.many(w), x, m); break;
      case 1: w = what(4); due("station(" + s + ", " + w + ")", x.station(s, w), m.station(s, w), x, m); break;
      case 2: w = what(2); k = what(2); due("track(" + s + ", " + k + ", " + w + ")", x.track(s, k, w), m.track(s, k, w), x, m); break;
      case 3: case 4: w = what(13); due("train(" + t + ", " + w + ")", x.train(t, w), m.train(t, w), x, m); break;
      case 5: due("fits(" + t + ")", x.fits(t), m.fits(t), x, m); break;
      case 6: due("why(" + t + ")", x.why(t), m.why(t), x, m); break;
      case 7: k = k(6); due("through(" + k + ")", x.through(k), m.through(k), x, m); break;
      case 8: due("risks()", x.risks(), m.risks(), x, m); break;
      case 9: due("weak(" + s + ")", x.weak(s), m.weak(s), x, m); break;
      case 10: k = k(5); w = what(3); due("links(" + k + ", " + w + ")", x.links(k, w), m.links(k, w), x, m); break;
      case 11: due("ring()", x.ring(), m.ring(), x, m); due("blocks(" + t + ")", x.blocks(t), m.blocks(t), x, m); break;
      case 12: due("ring()", x.ring(), m.ring(), x, m); break;
      case 13: k = section(m); due("section(" + k + ")", x.section(k), m.section(k), x, m); break;
      case 14: due("time(" + t + ", " + s + ", " + yes + ")", x.time(t, s, yes), m.time(t, s, yes), x, m); break;
      case 15: due("together(" + t + ", " + u + ", " + yes + ")", x.together(t, u, yes), m.together(t, u, yes), x, m); break;
      case 16: due("passes(" + t + ", " + u + ")", x.passes(t, u), m.passes(t, u), x, m); break;
      case 17: due("stood(" + s + ")", x.stood(s), m.stood(s), x, m); break;
      case 18: due("late(" + t + ", " + s + ")", x.late(t, s), m.late(t, s), x, m); break;
      case 19: k = k(70); w = pick(3) == 0 ? what(3) : k == -1 ? 0 : pick(4); due("event(" + k + ", " + w + ")", x.event(k, w), m.event(k, w), x, m); break;
      case 20: k = section(m); due("use(" + k + ")", x.use(k), m.use(k), x, m); break;
      case 21: k = k(6); w = section(m); due("gone(" + w + ", " + k + ")", x.gone(w, k), m.gone(w, k), x, m); break;
      case 22: due("waits(" + t + ")", x.waits(t), m.waits(t), x, m); break;
      case 23: k = minutes(); w = what(5); due("ahead(" + k + ", " + yes + ", " + w + ")", x.ahead(k, yes, w), m.ahead(k, yes, w), x, m); break;
      case 24: w = what(4); due("ends(" + yes + ", " + w + ")", x.ends(yes, w), m.ends(yes, w), x, m); break;
      default: if (coin()) due("print()", x.print(), m.print(), x, m); else printed(x, m);
    }
  }

  private void printed(SidingLoops x, Model m) {
    for (int i = -1; i <= m.out.length(); i++) {
      int got;
      try { got = x.out(i); } catch (NoSuchElementException e) { got = -2; }
      if (got != m.out(i)) due("out(" + i + ")", got, m.out(i), x, m);
    }
  }
}
