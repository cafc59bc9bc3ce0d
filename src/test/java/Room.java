import java.lang.management.ManagementFactory;

/**
 * All calls of one run share one room (../shared/LANGUAGE.md, rule 12): no call makes an object, and the
 * dearest ones end soon. Fails if a full run of calls makes more than what its one object needs.
 */
public final class Room {
  private static final int MOST_BYTES = 100_000;

  public static void main(String[] args) {
    com.sun.management.ThreadMXBean bean = (com.sun.management.ThreadMXBean) ManagementFactory.getThreadMXBean();
    long thread = Thread.currentThread().getId();
    StringBuilder b = new StringBuilder();
    for (char s = 'a'; s < 'h'; s++) b.append("station ").append(s).append(" 3 9 9;");
    for (char t = 'k'; t < 'p'; t++) b.append("train ").append(t).append(" 9 ").append(t % 2 == 0 ? "a g" : "g a").append(" 9 slow 1;");
    String text = b.toString();
    run(text);
    long before = bean.getThreadAllocatedBytes(thread);
    run(text);
    long made = bean.getThreadAllocatedBytes(thread) - before;
    System.out.println(made + " bytes made by a run");
    if (made > MOST_BYTES) System.exit(1);
  }

  private static void run(String text) {
    Check c = new Check();
    c.feed(text);
    SidingLoops x = c.x;
    x.load(text.length());
    for (int i = 0; i < 20; i++) {
      x.go(3, i % 4 != 3);
      x.plan(-1);
      x.plan(i % 5);
      x.slack(i % 5);
      x.band(i % 5, true);
      x.swap(0, i % 5);
      x.burden(false);
      x.loop(i % 7, 9);
      x.build();
      x.cost(i % 5, 9);
      x.when(i % 5);
      x.ends(i % 2 == 0, 0);
      x.ahead(99, true, 1);
      x.hold(i % 5, 9);
      x.link(i % 5, 3, 0);
      x.shut(i % 7, 0, true);
      x.rank(43210);
      x.stall(i % 5, 2);
      x.start(i % 5, i);
      x.cut(0);
      x.print();
      x.risks();
      x.ring();
      x.weak(3);
      x.undo();
    }
  }
}
