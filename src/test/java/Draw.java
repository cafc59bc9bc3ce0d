/** Numbers and texts drawn from a fixed row: the same for the same seed. */
final class Draw {
  private long seed;

  Draw(int seed) { this.seed = seed * 7919L + 12345; }

  /** 0 to n - 1. */
  int pick(int n) {
    seed = seed * 6364136223846793005L + 1442695040888963407L;
    return (int) ((seed >>> 33) % n);
  }

  boolean coin() { return pick(2) == 0; }

  String text() {
    StringBuilder b = new StringBuilder();
    int stations = 2 + pick(6), trains = 1 + pick(5);
    int longest = 10 + pick(20);
    for (int s = 0; s < stations; s++) {
      b.append("station s").append((char) ('a' + s)).append(' ').append(s == 0 ? pick(31) : pick(8) == 0 ? 1 + pick(30) : 1 + pick(6));
      for (int k = 1 + pick(3); k > 0; k--) b.append(' ').append(Math.min(99, longest - 5 + pick(20)));
      b.append(";");
      if (coin()) b.append('\n');
    }
    for (int t = 0; t < trains; t++) {
      int from = pick(3) == 0 ? pick(stations) : coin() ? 0 : stations - 1;
      int to = (from + 1 + pick(stations - 1)) % stations;
      if (coin() && from != stations - 1 - from) to = stations - 1 - from;
      b.append("train t").append((char) ('a' + t)).append(' ').append(5 + pick(longest)).append(" s").append((char) ('a' + from));
      b.append(" s").append((char) ('a' + to)).append(' ').append(pick(4) == 0 ? pick(60) : pick(10));
      if (coin()) b.append(" slow ").append(pick(4));
      if (coin()) b.append(" weight ").append(1 + pick(9));
      b.append(coin() ? " ; " : ";");
    }
    return b.toString();
  }

  /** Few tracks, and trains from everywhere at once: they are soon in each other's way. */
  String denseText() {
    StringBuilder b = new StringBuilder();
    int stations = 4 + pick(4);
    for (int s = 0; s < stations; s++) {
      b.append("station s").append((char) ('a' + s)).append(' ').append(1 + pick(3));
      for (int k = 1 + pick(4) / 2; k > 0; k--) b.append(' ').append(8 + pick(4));
      b.append(";");
    }
    for (int t = 0; t < 5; t++) {
      int from = pick(stations), to = pick(stations - 1);
      if (from <= stations / 2 && from > 0 && to < from) from--;
      b.append("train t").append((char) ('a' + t)).append(' ').append(6 + pick(4)).append(" s").append((char) ('a' + from));
      b.append(" s").append((char) ('a' + (to >= from ? to + 1 : to))).append(' ').append(pick(4)).append(coin() ? ";" : " weight 3;");
    }
    return b.toString();
  }
}
