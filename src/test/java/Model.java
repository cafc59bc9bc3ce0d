import java.util.ArrayList;
import java.util.Arrays;
import java.util.HashSet;
import java.util.List;
import java.util.Set;

/**
 * A second reading of the document for tests: plain lists, copies of everything, each minute by itself.
 * It shares no line with the class, so that a slip in one of them shows as a difference.
 */
final class Model {
  static final class Track { int length; boolean shut; Track(int length) { this.length = length; } }
  static final class Station { String name; int run; List<Track> tracks = new ArrayList<>(); int stood; }
  static final class Train {
    String name; int length, from, to, start, slow, weight = 1;
    String state = "OUT"; int at = -1, track = -1, arrives = -1, heldTill = 0, doneIn = -1, cameInIn = -1, waited;
    int[] came = new int[7], left = new int[7];
    Train() { Arrays.fill(came, -1); Arrays.fill(left, -1); }
    int next() { return at < to ? at + 1 : at - 1; }
  }
  static final class Meeting { int a, b, station, minute; }
  static final class Event { int train, kind, minute, station; }
  static final class Link { int train, station, other; }

  static final class World {
    List<Station> stations = new ArrayList<>();
    List<Train> trains = new ArrayList<>();
    List<Integer> rank = new ArrayList<>();
    List<Link> links = new ArrayList<>();
    List<Event> events = new ArrayList<>();
    List<Meeting> meetings = new ArrayList<>();
    int[] use = new int[7];
    int minute;
    int without = -1;

    World copy() {
      World w = new World();
      for (Station s : stations) {
        Station c = new Station(); c.name = s.name; c.run = s.run; c.stood = s.stood;
        for (Track t : s.tracks) { Track d = new Track(t.length); d.shut = t.shut; c.tracks.add(d); }
        w.stations.add(c);
      }
      for (Train t : trains) {
        Train c = new Train();
        c.name = t.name; c.length = t.length; c.from = t.from; c.to = t.to; c.start = t.start; c.slow = t.slow; c.weight = t.weight;
        c.state = t.state; c.at = t.at; c.track = t.track; c.arrives = t.arrives; c.heldTill = t.heldTill; c.doneIn = t.doneIn;
        c.cameInIn = t.cameInIn; c.waited = t.waited; c.came = t.came.clone(); c.left = t.left.clone();
        w.trains.add(c);
      }
      w.rank.addAll(rank);
      w.links.addAll(links); // links, events, meetings never change once made
      w.events.addAll(events);
      w.meetings.addAll(meetings);
      w.use = use.clone();
      w.minute = minute;
      w.without = without;
      return w;
    }

    boolean there(int t) { return t != without; }

    int run(Train t, int section) {
      int twice = stations.get(section + 1).run * 2 + stations.get(section + 1).run * t.slow;
      return twice % 2 == 0 ? twice / 2 : twice / 2 + 1;
    }

    int runs(Train t, int a, int b) {
      int sum = 0;
      for (int k = 0; k < stations.size() - 1; k++) {
        if (k >= Math.min(a, b) && k + 1 <= Math.max(a, b)) sum += run(t, k);
      }
      return sum;
    }

    /** The station in which the track is that a train is in or has kept; -1 if it has none. */
    int holdsAt(Train t) {
      if (t.track < 0) return -1;
      return t.state.equals("ON") ? t.next() : t.at;
    }

    int holder(int station, int track) {
      for (int t = 0; t < trains.size(); t++) {
        if (there(t) && holdsAt(trains.get(t)) == station && trains.get(t).track == track) return t;
      }
      return -1;
    }

    boolean free(int station, int track) {
      return holder(station, track) < 0 && !stations.get(station).tracks.get(track).shut;
    }

    int freeTrackFor(Train t, int station) {
      int best = -1;
      List<Track> tracks = stations.get(station).tracks;
      for (int k = 0; k < tracks.size(); k++) {
        if (free(station, k) && tracks.get(k).length >= t.length && (best < 0 || tracks.get(k).length < tracks.get(best).length)) best = k;
      }
      return best;
    }

    int on(int section) {
      for (int t = 0; t < trains.size(); t++) {
        Train x = trains.get(t);
        if (there(t) && x.state.equals("ON") && Math.min(x.at, x.next()) == section) return t;
      }
      return -1;
    }

    List<Integer> row() {
      World w = copy();
      List<Integer> left = new ArrayList<>();
      for (int t = 0; t < w.trains.size(); t++) {
        Train x = w.trains.get(t);
        if (!there(t)) { x.state = "DONE"; x.track = -1; continue; }
        if (x.state.equals("ON")) {
          int next = x.next();
          x.at = next;
          x.state = next == x.to ? "DONE" : "IN";
        }
        if (x.state.equals("IN")) left.add(t);
      }
      List<Integer> row = new ArrayList<>();
      boolean found = true;
      while (found) {
        found = false;
        for (int t : left) {
          Train x = w.trains.get(t);
          boolean can = true;
          int step = x.to > x.at ? 1 : -1;
          for (int s = x.at + step; s != x.to; s += step) can &= w.freeTrackFor(x, s) >= 0;
          if (can) {
            x.state = "DONE"; x.track = -1; row.add(t); left.remove((Integer) t); found = true;
            break;
          }
        }
      }
      row.add(left.isEmpty() ? 1 : 0); // the last one tells whether all are gone
      return row;
    }

    boolean safe() { List<Integer> row = row(); return row.get(row.size() - 1) == 1; }

    boolean canMove(Train t) { return whyNot(t) == 0; }

    /** 0 it can, 3 no track, 4 section taken; 1 and 2 as why() has them. */
    int whyNot(Train t) {
      switch (t.state) {
        case "DONE": return 1;
        case "ON": return 2;
        case "OUT": return freeTrackFor(t, t.from) < 0 ? 3 : 0;
        default:
          if (on(Math.min(t.at, t.next())) >= 0) return 4;
          return t.next() != t.to && freeTrackFor(t, t.next()) < 0 ? 3 : 0;
      }
    }

    void move(int number) {
      Train t = trains.get(number);
      Event e = new Event();
      e.train = number; e.minute = minute;
      if (t.state.equals("OUT")) {
        t.track = freeTrackFor(t, t.from); t.state = "IN"; t.at = t.from; t.came[t.at] = minute; t.cameInIn = minute;
        e.kind = 0;
      } else {
        t.track = t.next() == t.to ? -1 : freeTrackFor(t, t.next());
        t.state = "ON"; t.left[t.at] = minute; t.arrives = minute + run(t, Math.min(t.at, t.next()));
        e.kind = 1;
      }
      e.station = t.at;
      events.add(e);
    }

    boolean safeAfter(int number) { World w = copy(); w.move(number); return w.safe(); }

    boolean keeps(Link l) {
      Train t = trains.get(l.train), o = trains.get(l.other);
      return there(l.train) && there(l.other) && t.state.equals("IN") && t.at == l.station && o.came[l.station] < 0 && !o.state.equals("DONE");
    }

    void minute(boolean care) {
      for (int n = 0; n < trains.size(); n++) {
        Train t = trains.get(n);
        if (!there(n) || !t.state.equals("ON") || t.arrives > minute) continue;
        t.at = t.next();
        t.came[t.at] = minute;
        if (t.at == t.to) { t.state = "DONE"; t.doneIn = minute; } else t.state = "IN";
        Event e = new Event(); e.train = n; e.kind = 2; e.minute = minute; e.station = t.at;
        events.add(e);
      }
      for (int n : rank) {
        Train t = trains.get(n);
        if (!there(n) || minute < t.heldTill || !canMove(t)) continue;
        if (t.state.equals("OUT") && t.start > minute) continue;
        if (t.state.equals("IN")) {
          boolean kept = t.cameInIn == minute;
          for (Link l : links) kept |= l.train == n && keeps(l);
          if (kept) continue;
        }
        if (care && !safeAfter(n)) continue;
        move(n);
      }
      for (int s = 0; s < stations.size() - 1; s++) if (on(s) >= 0) use[s]++;
      for (int a = 0; a < trains.size(); a++) {
        Train x = trains.get(a);
        if (!there(a) || !x.state.equals("IN")) continue;
        x.waited++;
        stations.get(x.at).stood++;
        for (int b = 0; b < trains.size(); b++) {
          Train y = trains.get(b);
          if (a == b || !there(b) || !y.state.equals("IN") || y.at != x.at) continue;
          Meeting m = new Meeting(); m.a = a; m.b = b; m.station = x.at; m.minute = minute;
          boolean known = false;
          for (Meeting o : meetings) known |= o.a == a && o.b == b && o.station == x.at;
          if (!known) meetings.add(m);
        }
      }
      minute++;
    }

    int count(String state) {
      int n = 0;
      for (int t = 0; t < trains.size(); t++) if (there(t) && trains.get(t).state.equals(state)) n++;
      return n;
    }

    boolean stuck() {
      if (count("ON") > 0 || count("IN") == 0) return false;
      for (int t = 0; t < trains.size(); t++) if (there(t) && canMove(trains.get(t))) return false;
      return true;
    }

    boolean ended() { return count("OUT") + count("IN") + count("ON") == 0 || stuck(); }

    World ahead(int n, boolean care) {
      World w = copy();
      for (int i = 0; i < n; i++) w.minute(care);
      return w;
    }

    World end(boolean care) {
      World w = copy();
      for (int i = 0; i < 300 && !w.ended(); i++) w.minute(care);
      return w;
    }

    int delay(Train t) { return t.state.equals("DONE") ? t.doneIn - t.start - runs(t, t.from, t.to) : -1; }

    int price() {
      int sum = 0;
      for (int t = 0; t < trains.size(); t++) {
        Train x = trains.get(t);
        if (there(t)) sum += x.state.equals("DONE") ? delay(x) * x.weight : 1000 * x.weight;
      }
      return sum;
    }

    int endPrice() { return end(true).price(); }

    Set<Integer> waitsFor(int n) {
      Set<Integer> others = new HashSet<>();
      Train t = trains.get(n);
      if (!t.state.equals("IN") || canMove(t)) return others;
      int on = on(Math.min(t.at, t.next()));
      if (on >= 0) { others.add(on); return others; }
      for (int k = 0; k < stations.get(t.next()).tracks.size(); k++) {
        int h = holder(t.next(), k);
        if (h >= 0 && stations.get(t.next()).tracks.get(k).length >= t.length) others.add(h);
      }
      return others;
    }
  }

  World w = new World();
  List<World> undo = new ArrayList<>();
  List<Integer> tape = new ArrayList<>();
  int status, fault = -1, place = -1;
  String out = "";

  int ok(int v) { status = 0; return v; }
  int no(int s) { status = s; return -1; }
  int any(int v) { return v == -1 ? no(5) : ok(v); }
  static int bool(boolean b) { return b ? 1 : 0; }
  boolean noStation(int s) { return s < 0 || s >= w.stations.size(); }
  boolean noTrain(int t) { return t < 0 || t >= w.trains.size(); }
  boolean noTrack(int s, int k) { return noStation(s) || k < 0 || k >= w.stations.get(s).tracks.size(); }
  boolean noSection(int s) { return s < 0 || s >= w.stations.size() - 1; }
  static boolean bad(int v, int a, int b) { return v < a || v > b; }

  int status() { return status; }

  int feed(int a, int b, int c, int d, int e) {
    if (tape.size() > 680) return -1;
    for (int x : new int[] {a, b, c, d, e}) for (int k = 3; k >= 0; k--) tape.add(x >>> 8 * k & 255);
    return tape.size();
  }

  int load(int n) {
    if (n < 0 || n > tape.size()) return no(1);
    StringBuilder text = new StringBuilder();
    for (int i = 0; i < n; i++) text.append((char) (int) tape.get(i));
    tape.clear();
    TextModel reading = new TextModel(text.toString());
    fault = reading.fault; place = reading.place;
    if (fault != 0) return no(9);
    w = reading.world; undo.clear();
    return ok(w.trains.size());
  }

  int fault(int what) { return what == 0 ? fault : what == 1 ? place : -1; }

  int many(int what) {
    int most = 0;
    for (Train t : w.trains) most = Math.max(most, w.delay(t));
    switch (what) {
      case 0: return ok(w.stations.size());
      case 1: return ok(w.trains.size());
      case 2: return ok(w.minute);
      case 3: return ok(w.count("DONE"));
      case 4: return ok(w.count("OUT"));
      case 5: return ok(w.price());
      case 6: return ok(undo.size());
      case 7: return ok(bool(w.safe()));
      case 8: return ok(bool(w.stuck()));
      case 9: return ok(most);
      default: return no(1);
    }
  }

  int station(int station, int what) {
    if (bad(what, 0, 4)) return no(1);
    if (noStation(station)) return no(2);
    Station s = w.stations.get(station);
    int free = 0, in = 0, longest = 0;
    for (int k = 0; k < s.tracks.size(); k++) {
      free += bool(w.free(station, k));
      longest = Math.max(longest, s.tracks.get(k).length);
    }
    for (Train t : w.trains) in += bool(t.state.equals("IN") && t.at == station);
    return ok(new int[] {s.run, s.tracks.size(), free, in, longest}[what]);
  }

  int track(int station, int track, int what) {
    if (bad(what, 0, 2)) return no(1);
    if (noTrack(station, track)) return no(2);
    Track t = w.stations.get(station).tracks.get(track);
    return what == 0 ? ok(t.length) : what == 1 ? any(w.holder(station, track)) : ok(bool(t.shut));
  }

  int train(int train, int what) {
    if (bad(what, 0, 13)) return no(1);
    if (noTrain(train)) return no(2);
    Train t = w.trains.get(train);
    boolean inOrOn = t.state.equals("IN") || t.state.equals("ON");
    switch (what) {
      case 0: return ok(t.length);
      case 1: return ok(t.from);
      case 2: return ok(t.to);
      case 3: return ok(t.start);
      case 4: return ok(t.slow);
      case 5: return ok(t.weight);
      case 6: return ok(List.of("OUT", "IN", "ON", "DONE").indexOf(t.state));
      case 7: return inOrOn ? ok(t.at) : no(5);
      case 8: return inOrOn && t.track >= 0 ? ok(t.track) : no(5);
      case 9: return t.state.equals("ON") ? ok(t.arrives - w.minute) : no(5);
      case 10: return ok(w.runs(t, t.from, t.to));
      case 11: return t.state.equals("DONE") ? ok(w.delay(t)) : no(5);
      case 12: return t.heldTill > w.minute ? ok(t.heldTill) : no(5);
      default: return ok(w.rank.indexOf(train));
    }
  }

  int fits(int train) {
    if (noTrain(train)) return no(2);
    int bits = 0;
    for (int s = 0; s < w.stations.size(); s++) for (Track t : w.stations.get(s).tracks) if (t.length >= w.trains.get(train).length) bits |= 1 << s;
    return ok(bits);
  }

  int why(int train) {
    if (noTrain(train)) return no(2);
    int why = w.whyNot(w.trains.get(train));
    return ok(why == 0 && !w.safeAfter(train) ? 5 : why);
  }

  int through(int k) {
    if (k < -1) return no(1);
    List<Integer> row = w.row();
    row.remove(row.size() - 1);
    return k == -1 ? ok(row.size()) : k >= row.size() ? no(5) : ok(row.get(k));
  }

  int risks() {
    int bits = 0;
    for (int t = 0; t < w.trains.size(); t++) if (why(t) == 5) bits |= 1 << t;
    return ok(bits);
  }

  int weak(int station) {
    if (noStation(station)) return no(2);
    if (!w.safe()) return no(5);
    int bits = 0;
    for (int k = 0; k < w.stations.get(station).tracks.size(); k++) {
      World v = w.copy();
      if (v.stations.get(station).tracks.get(k).shut) continue;
      v.stations.get(station).tracks.get(k).shut = true;
      if (!v.safe()) bits |= 1 << k;
    }
    return ok(bits);
  }

  int links(int k, int what) {
    if (k < -1 || bad(what, 0, 3) || k == -1 && what != 0) return no(1);
    if (k == -1) return ok(w.links.size());
    if (k >= w.links.size()) return no(5);
    Link l = w.links.get(k);
    return ok(new int[] {l.train, l.station, l.other, bool(w.keeps(l))}[what]);
  }

  int blocks(int train) {
    if (noTrain(train)) return no(2);
    Train t = w.trains.get(train);
    if (!t.state.equals("IN") || w.canMove(t)) return no(5);
    int bits = 0;
    for (int o : w.waitsFor(train)) bits |= 1 << o;
    return ok(bits);
  }

  int ring() {
    int bits = 0;
    for (int t = 0; t < w.trains.size(); t++) {
      Set<Integer> seen = new HashSet<>();
      List<Integer> todo = new ArrayList<>(w.waitsFor(t));
      while (!todo.isEmpty()) {
        int u = todo.remove(0);
        if (seen.add(u)) todo.addAll(w.waitsFor(u));
      }
      if (seen.contains(t)) bits |= 1 << t;
    }
    return ok(bits);
  }

  int section(int section) { return noSection(section) ? no(2) : any(w.on(section)); }

  int time(int train, int station, boolean left) {
    if (noTrain(train) || noStation(station)) return no(2);
    Train t = w.trains.get(train);
    return any(left ? t.left[station] : t.came[station]);
  }

  int together(int train, int other, boolean when) {
    if (noTrain(train) || noTrain(other)) return no(2);
    if (train == other) return no(4);
    for (Meeting m : w.meetings) if (m.a == train && m.b == other) return ok(when ? m.minute : m.station);
    return no(5);
  }

  int passes(int train, int other) {
    if (noTrain(train) || noTrain(other)) return no(2);
    if (train == other) return no(4);
    int n = 0;
    for (Meeting m : w.meetings) if (m.a == train && m.b == other) n++;
    return ok(n);
  }

  int stood(int station) { return noStation(station) ? no(2) : ok(w.stations.get(station).stood); }

  int late(int train, int station) {
    if (noTrain(train) || noStation(station)) return no(2);
    Train t = w.trains.get(train);
    if (t.came[station] < 0) return no(5);
    return ok(t.came[station] - (station == t.from ? t.start : t.start + 1 + w.runs(t, t.from, station)));
  }

  int event(int k, int what) {
    if (k < -1 || bad(what, 0, 3) || k == -1 && what != 0) return no(1);
    if (k == -1) return ok(w.events.size());
    if (k >= w.events.size()) return no(5);
    Event e = w.events.get(k);
    return ok(new int[] {e.train, e.kind, e.minute, e.station}[what]);
  }

  int use(int section) { return noSection(section) ? no(2) : ok(w.use[section]); }

  int gone(int section, int k) {
    if (k < -1) return no(1);
    if (noSection(section)) return no(2);
    List<Integer> row = new ArrayList<>();
    for (Event e : w.events) {
      Train t = w.trains.get(e.train);
      if (e.kind == 1 && Math.min(e.station, e.station < t.to ? e.station + 1 : e.station - 1) == section) row.add(e.train);
    }
    return k == -1 ? ok(row.size()) : k >= row.size() ? no(5) : ok(row.get(k));
  }

  int waits(int train) { return noTrain(train) ? no(2) : ok(w.trains.get(train).waited); }

  int ahead(int n, boolean care, int what) {
    if (bad(n, 0, 99) || bad(what, 0, 5)) return no(1);
    World v = w.ahead(n, care);
    return ok(new int[] {v.count("DONE"), v.price(), bool(v.safe()), bool(v.stuck()), v.count("ON"), v.count("OUT")}[what]);
  }

  int ends(boolean care, int what) {
    if (bad(what, 0, 4)) return no(1);
    World v = w.end(care);
    return ok(new int[] {v.price(), v.minute, v.count("DONE"), bool(v.stuck()), Arrays.stream(v.use).sum()}[what]);
  }

  int when(int train) {
    if (noTrain(train)) return no(2);
    if (w.trains.get(train).state.equals("DONE")) return no(4);
    return any(w.end(true).trains.get(train).doneIn);
  }

  int plan(int k) {
    if (k < -1) return no(1);
    if (k >= w.trains.size()) return no(5);
    List<List<Integer>> ranks = new ArrayList<>();
    orders(new ArrayList<>(), ranks);
    List<Integer> best = null;
    int least = 0;
    for (List<Integer> rank : ranks) {
      World v = w.copy();
      v.rank = rank;
      int p = v.endPrice();
      if (best == null || p < least) { best = rank; least = p; }
    }
    return ok(k == -1 ? least : best.get(k));
  }

  void orders(List<Integer> begun, List<List<Integer>> all) {
    if (begun.size() == w.trains.size()) { all.add(new ArrayList<>(begun)); return; }
    for (int t = 0; t < w.trains.size(); t++) {
      if (begun.contains(t)) continue;
      begun.add(t); orders(begun, all); begun.remove(begun.size() - 1);
    }
  }

  int heldPrice(int train, int n) {
    World v = w.copy();
    v.trains.get(train).heldTill = n == 0 ? 0 : w.minute + n;
    return v.endPrice();
  }

  int cost(int train, int n) {
    if (bad(n, 1, 99)) return no(1);
    if (noTrain(train)) return no(2);
    if (w.trains.get(train).state.equals("DONE")) return no(4);
    return ok(heldPrice(train, n) - w.endPrice());
  }

  int slack(int train) {
    if (noTrain(train)) return no(2);
    if (w.trains.get(train).state.equals("DONE")) return no(4);
    int base = heldPrice(train, 0), n = 0;
    while (n < 99 && heldPrice(train, n + 1) <= base) n++;
    return ok(n);
  }

  int band(int train, boolean price) {
    if (noTrain(train)) return no(2);
    if (!w.trains.get(train).state.equals("OUT")) return no(5);
    int best = -1, least = 0;
    for (int s = 0; s <= 60; s++) {
      World v = w.copy();
      v.trains.get(train).start = s;
      int p = v.endPrice();
      if (best < 0 || p < least) { best = s; least = p; }
    }
    return ok(price ? least : best);
  }

  int swap(int train, int other) {
    if (noTrain(train) || noTrain(other)) return no(2);
    if (train == other) return no(4);
    World v = w.copy();
    int a = v.rank.indexOf(train), b = v.rank.indexOf(other);
    v.rank.set(a, other); v.rank.set(b, train);
    return ok(w.endPrice() - v.endPrice());
  }

  int burden(boolean price) {
    int best = -1, least = 0;
    for (int t = 0; t < w.trains.size(); t++) {
      World v = w.copy();
      v.without = t;
      int p = v.endPrice();
      if (best < 0 || p < least) { best = t; least = p; }
    }
    return best < 0 ? no(5) : ok(price ? least : best);
  }

  int loopPrice(int station, int length) {
    World v = w.copy();
    v.stations.get(station).tracks.add(new Track(length));
    return v.endPrice();
  }

  int loop(int station, int length) {
    if (bad(length, 1, 99)) return no(1);
    if (noStation(station)) return no(2);
    if (w.stations.get(station).tracks.size() == 3) return no(3);
    return ok(w.endPrice() - loopPrice(station, length));
  }

  int build() {
    int best = -1, least = 0;
    for (int s = 0; s < w.stations.size(); s++) {
      if (w.stations.get(s).tracks.size() == 3) continue;
      int p = loopPrice(s, 99);
      if (best < 0 || p < least) { best = s; least = p; }
    }
    return any(best);
  }

  void act() { undo.add(w.copy()); if (undo.size() > 10) undo.remove(0); }

  int go(int n, boolean care) {
    if (bad(n, 1, 99)) return no(1);
    if (w.minute + n > 999) return no(3);
    act();
    w = w.ahead(n, care);
    return ok(w.minute);
  }

  int hold(int train, int n) {
    if (bad(n, 1, 99)) return no(1);
    if (noTrain(train)) return no(2);
    if (w.trains.get(train).state.equals("DONE")) return no(4);
    act();
    return ok(w.trains.get(train).heldTill = w.minute + n);
  }

  int shut(int station, int track, boolean yes) {
    if (noTrack(station, track)) return no(2);
    if (w.stations.get(station).tracks.get(track).shut == yes) return no(4);
    act();
    w.stations.get(station).tracks.get(track).shut = yes;
    int n = 0;
    for (int s = 0; s < w.stations.size(); s++) for (int k = 0; k < w.stations.get(s).tracks.size(); k++) n += bool(w.free(s, k));
    return ok(n);
  }

  int rank(int row) {
    if (row < 0) return no(1);
    String digits = String.valueOf(row);
    while (digits.length() < w.trains.size()) digits = "0" + digits;
    if (w.trains.isEmpty()) digits = row == 0 ? "" : "x";
    List<Integer> told = new ArrayList<>();
    for (char c : digits.toCharArray()) told.add(c - '0');
    if (told.size() != w.trains.size()) return no(1);
    for (int t = 0; t < w.trains.size(); t++) if (!told.contains(t)) return no(1);
    if (told.equals(w.rank)) return no(4);
    act();
    int same = 0;
    for (int i = 0; i < told.size(); i++) same += bool(told.get(i).intValue() == w.rank.get(i).intValue());
    w.rank = told;
    return ok(same);
  }

  int start(int train, int minute) {
    if (bad(minute, 0, 199)) return no(1);
    if (noTrain(train)) return no(2);
    int was = w.trains.get(train).start;
    if (was == minute) return no(4);
    if (!w.trains.get(train).state.equals("OUT")) return no(5);
    act();
    w.trains.get(train).start = minute;
    return ok(was);
  }

  int stall(int train, int n) {
    if (bad(n, 1, 99)) return no(1);
    if (noTrain(train)) return no(2);
    if (!w.trains.get(train).state.equals("ON")) return no(5);
    act();
    return ok(w.trains.get(train).arrives += n);
  }

  int link(int train, int station, int other) {
    if (noTrain(train) || noStation(station) || noTrain(other)) return no(2);
    if (train == other) return no(4);
    for (Link l : w.links) if (l.train == train && l.station == station && l.other == other) return no(4);
    if (w.links.size() == 4) return no(3);
    act();
    Link l = new Link(); l.train = train; l.station = station; l.other = other;
    w.links.add(l);
    return ok(w.links.size() - 1);
  }

  int cut(int link) {
    if (link < 0) return no(1);
    if (link >= w.links.size()) return no(5);
    act();
    w.links.remove(link);
    return ok(w.links.size());
  }

  int undo() {
    if (undo.isEmpty()) return no(5);
    w = undo.remove(undo.size() - 1);
    return ok(undo.size());
  }

  int print() {
    StringBuilder b = new StringBuilder();
    for (Station s : w.stations) {
      b.append("station ").append(s.name).append(' ').append(s.run);
      for (Track t : s.tracks) b.append(' ').append(t.length);
      b.append(';');
    }
    for (Train t : w.trains) {
      b.append("train ").append(t.name).append(' ').append(t.length).append(' ').append(w.stations.get(t.from).name).append(' ').append(w.stations.get(t.to).name);
      b.append(' ').append(t.start).append(" slow ").append(t.slow).append(" weight ").append(t.weight).append(';');
    }
    out = b.toString();
    return ok(out.length());
  }

  /** Byte i of OUT; -2 for NoSuchElementException. */
  int out(int i) { return i < 0 || i >= out.length() ? -2 : out.charAt(i); }
}
