import java.util.ArrayList;
import java.util.List;
import java.util.Set;
import java.util.regex.Matcher;
import java.util.regex.Pattern;

/** A second reading of what the document says of texts: all tokens first, then the lines. */
final class TextModel {
  private static final Pattern ROW = Pattern.compile("[a-z]+|[0-9]+|;|[^a-z0-9; \n]");
  private static final Set<String> OWN = Set.of("station", "train", "slow", "weight");

  int fault, place = -1;
  Model.World world = new Model.World();
  private final List<String> tokens = new ArrayList<>();
  private final List<Integer> places = new ArrayList<>();
  private final Set<String> names = new java.util.HashSet<>();
  private int next;

  TextModel(String text) {
    Matcher m = ROW.matcher(text);
    while (m.find()) { tokens.add(m.group()); places.add(m.start()); }
    tokens.add(""); // the end
    places.add(text.length());
    while (fault == 0 && !tokens.get(next).isEmpty()) line();
    List<Model.Train> trains = world.trains;
    List<Integer> order = new ArrayList<>();
    for (int t = 0; t < trains.size(); t++) order.add(t);
    order.sort((a, b) -> trains.get(b).weight - trains.get(a).weight);
    world.rank = order;
  }

  private void fail(int kind, int at) { if (fault == 0) { fault = kind; place = places.get(at); } }

  /** Takes the next token if it is of the kind that the pattern tells. */
  private String take(String pattern) {
    String token = tokens.get(next);
    if (fault != 0) return null;
    boolean isToken = token.isEmpty() || token.matches("[a-z]{1,8}|[0-9]{1,3}|;");
    if (!isToken) { fail(1, next); return null; }
    if (!token.matches(pattern)) { fail(2, next); return null; }
    next++;
    return token;
  }

  private String name() {
    String name = take("[a-z]{1,8}");
    if (name != null && OWN.contains(name)) { fail(2, next - 1); return null; }
    return name;
  }

  private String newName() {
    String name = name();
    if (name != null && !names.add(name)) fail(4, next - 1);
    return name;
  }

  private int number(int least, int most) {
    String digits = take("[0-9]{1,3}");
    if (digits == null) return 0;
    int n = Integer.parseInt(digits);
    if (n < least || n > most) fail(3, next - 1);
    return n;
  }

  private int stationNamed() {
    String name = name();
    if (name == null) return -1;
    for (int s = 0; s < world.stations.size(); s++) if (world.stations.get(s).name.equals(name)) return s;
    fail(4, next - 1);
    return -1;
  }

  private void line() {
    String first = take("station|train");
    if (first == null) return;
    if (first.equals("station")) stationLine(); else trainLine();
  }

  private void stationLine() {
    if (world.stations.size() == 7) { fail(5, next - 1); return; }
    Model.Station s = new Model.Station();
    s.name = newName();
    s.run = number(world.stations.isEmpty() ? 0 : 1, 30);
    s.tracks.add(new Model.Track(number(1, 99)));
    while (fault == 0 && !tokens.get(next).equals(";")) {
      int length = number(1, 99);
      if (fault == 0 && s.tracks.size() == 3) fail(5, next - 1);
      s.tracks.add(new Model.Track(length));
    }
    take(";");
    world.stations.add(s);
  }

  private void trainLine() {
    if (world.trains.size() == 5) { fail(5, next - 1); return; }
    Model.Train t = new Model.Train();
    t.name = newName();
    t.length = number(1, 99);
    t.from = stationNamed();
    t.to = stationNamed();
    if (fault == 0 && t.to == t.from) fail(4, next - 1);
    t.start = number(0, 199);
    if (fault == 0 && tokens.get(next).equals("slow")) { next++; t.slow = number(0, 3); }
    if (fault == 0 && tokens.get(next).equals("weight")) { next++; t.weight = number(1, 9); }
    take(";");
    world.trains.add(t);
  }
}
