import java.util.Arrays;
import java.util.NoSuchElementException;

/**
 * Trains on a line of one track with sidings. What each call answers is told, promise by promise,
 * in ../shared/DOC.md; the names in capitals in the comments here are the terms of that document.
 *
 * <p>All rows are made in constructors: no call makes an object, so a run needs little room.
 */
public final class SidingLoops {
    public static final int NONE = -1;

    private static final int MAX_STATIONS = 7;
    private static final int MAX_SECTIONS = 6;
    private static final int MAX_TRACKS = 3;
    private static final int MAX_TRAINS = 5;
    private static final int MAX_LINKS = 4;
    private static final int MAX_UNDO = 10;
    private static final int MAX_TEXT = 700;
    private static final int MAX_MINUTE = 999;
    private static final int MAX_GO = 99;
    private static final int MAX_START = 199;
    private static final int MAX_BAND = 60;
    private static final int MAX_RANKS = 120;
    /** A train comes in once, and goes and arrives at most once a section. */
    private static final int MAX_EVENTS = MAX_TRAINS * (1 + 2 * MAX_SECTIONS);
    private static final int LONGEST = 99;
    private static final int END_MINUTES = 300;
    private static final int PRICE_OF_LATE = 1000;

    /** All tracks of the line have a number of their own, a cell: three of each station in a row. */
    private static final int CELLS = MAX_STATIONS * MAX_TRACKS;
    /** A move to here needs no track: it ends at TO. */
    private static final int HOME = CELLS;
    private static final int NO_TRACK = -1;
    private static final int SECTION_TAKEN = -2;

    private static final int OK = 0;
    private static final int BAD_NUMBER = 1;
    private static final int NO_SUCH = 2;
    private static final int TOO_MANY = 3;
    private static final int SO_ALREADY = 4;
    private static final int NOTHING = 5;
    private static final int FAULTY = 9;

    private static final int OUT = 0;
    private static final int IN = 1;
    private static final int ON = 2;
    private static final int DONE = 3;

    private static final int CAME_IN = 0;
    private static final int WENT = 1;
    private static final int ARRIVED = 2;

    private final Tokens tokens = new Tokens();
    private final Reader reader = new Reader(tokens);
    private final State now = new State(true);
    private final Acts acts = new Acts();
    private final Forecast forecast = new Forecast();
    private final Sheet sheet = new Sheet();
    private Layout told = new Layout();
    private Layout spare = new Layout();
    private int status;

    public SidingLoops() {
        status = OK;
        now.reset(told);
    }

    public int status() {
        return status;
    }

    public int feed(int a, int b, int c, int d, int e) {
        if (!tokens.hasRoom(20)) {
            return NONE;
        }
        tokens.append(a);
        tokens.append(b);
        tokens.append(c);
        tokens.append(d);
        tokens.append(e);
        return tokens.length;
    }

    public int load(int n) {
        if (n < 0 || n > tokens.length) {
            return refuse(BAD_NUMBER);
        }
        boolean faultless = reader.read(n, spare);
        tokens.clear();
        if (!faultless) {
            return refuse(FAULTY);
        }
        Layout older = told;
        told = spare;
        spare = older;
        told.settle();
        now.reset(told);
        acts.forget();
        return answer(told.trains);
    }

    public int fault(int what) {
        if (what == 0) {
            return reader.fault;
        }
        return what == 1 ? reader.place : NONE;
    }

    // ---- what there is

    public int many(int what) {
        switch (what) {
            case 0: return answer(told.stations);
            case 1: return answer(told.trains);
            case 2: return answer(now.minute);
            case 3: return answer(now.count(DONE));
            case 4: return answer(now.count(OUT));
            case 5: return answer(now.price(NONE));
            case 6: return answer(acts.count);
            case 7: return answer(now.isSafe() ? 1 : 0);
            case 8: return answer(now.isStuck() ? 1 : 0);
            case 9: return answer(now.greatestDelay());
            default: return refuse(BAD_NUMBER);
        }
    }

    public int station(int station, int what) {
        if (!isWithin(what, 0, 4)) {
            return refuse(BAD_NUMBER);
        }
        if (!isStation(station)) {
            return refuse(NO_SUCH);
        }
        switch (what) {
            case 0: return answer(told.run[station]);
            case 1: return answer(told.tracks[station]);
            case 2: return answer(Integer.bitCount(now.freeCells() & told.cellsOf(station)));
            case 3: return answer(Integer.bitCount(now.trainsIn(station)));
            default: return answer(told.longest(station));
        }
    }

    public int track(int station, int track, int what) {
        if (!isWithin(what, 0, 2)) {
            return refuse(BAD_NUMBER);
        }
        if (!isTrack(station, track)) {
            return refuse(NO_SUCH);
        }
        int cell = station * MAX_TRACKS + track;
        switch (what) {
            case 0: return answer(told.length[cell]);
            case 1: return answerIfAny(now.trainWith(cell));
            default: return answer(now.shut >> cell & 1);
        }
    }

    public int train(int train, int what) {
        if (!isWithin(what, 0, 13)) {
            return refuse(BAD_NUMBER);
        }
        if (!isTrain(train)) {
            return refuse(NO_SUCH);
        }
        switch (what) {
            case 0: return answer(told.size[train]);
            case 1: return answer(told.from[train]);
            case 2: return answer(told.to[train]);
            case 3: return answer(now.start[train]);
            case 4: return answer(told.slow[train]);
            case 5: return answer(told.weight[train]);
            case 6: return answer(now.phase[train]);
            case 7: return answerIfAny(now.stationOf(train));
            case 8: return answerIfAny(now.trackOf(train));
            case 9: return answerIfAny(now.minutesToGo(train));
            case 10: return answer(told.lone[train]);
            case 11: return answerIfAny(now.delay(train));
            case 12: return answerIfAny(now.heldTill(train));
            default: return answer(now.placeInRank(train));
        }
    }

    public int fits(int train) {
        if (!isTrain(train)) {
            return refuse(NO_SUCH);
        }
        int bits = 0;
        for (int s = 0; s < told.stations; s++) {
            if ((told.fit[train] & told.cellsOf(s)) != 0) {
                bits |= 1 << s;
            }
        }
        return answer(bits);
    }

    public int why(int train) {
        if (!isTrain(train)) {
            return refuse(NO_SUCH);
        }
        return answer(now.reason(train));
    }

    public int through(int k) {
        if (k < NONE) {
            return refuse(BAD_NUMBER);
        }
        now.isSafe();
        Safety safety = now.safety;
        if (k == NONE) {
            return answer(safety.rowLength);
        }
        if (k >= safety.rowLength) {
            return refuse(NOTHING);
        }
        return answer(safety.row[k]);
    }

    public int risks() {
        int bits = 0;
        for (int t = 0; t < told.trains; t++) {
            if (now.reason(t) == 5) {
                bits |= 1 << t;
            }
        }
        return answer(bits);
    }

    public int weak(int station) {
        if (!isStation(station)) {
            return refuse(NO_SUCH);
        }
        if (!now.isSafe()) {
            return refuse(NOTHING);
        }
        int bits = 0;
        for (int k = 0; k < told.tracks[station]; k++) {
            if (now.isWeak(station * MAX_TRACKS + k)) {
                bits |= 1 << k;
            }
        }
        return answer(bits);
    }

    public int links(int k, int what) {
        if (k < NONE || !isWithin(what, 0, k == NONE ? 0 : 3)) {
            return refuse(BAD_NUMBER);
        }
        if (k == NONE) {
            return answer(now.links);
        }
        if (k >= now.links) {
            return refuse(NOTHING);
        }
        if (what == 3) {
            return answer(now.linkKeeps(k) ? 1 : 0);
        }
        return answer(now.linked[3 * k + what]);
    }

    public int blocks(int train) {
        if (!isTrain(train)) {
            return refuse(NO_SUCH);
        }
        if (now.phase[train] != IN || now.canMove(train)) {
            return refuse(NOTHING);
        }
        return answer(now.waitsFor(train));
    }

    public int ring() {
        int bits = 0;
        for (int t = 0; t < told.trains; t++) {
            if (now.isInRing(t)) {
                bits |= 1 << t;
            }
        }
        return answer(bits);
    }

    public int section(int section) {
        if (!isSection(section)) {
            return refuse(NO_SUCH);
        }
        return answerIfAny(now.rider[section]);
    }

    // ---- what was

    public int time(int train, int station, boolean left) {
        if (!isTrain(train) || !isStation(station)) {
            return refuse(NO_SUCH);
        }
        int visit = train * MAX_STATIONS + station;
        return answerIfAny(left ? now.left[visit] : now.came[visit]);
    }

    public int together(int train, int other, boolean when) {
        if (!isTrain(train) || !isTrain(other)) {
            return refuse(NO_SUCH);
        }
        if (train == other) {
            return refuse(SO_ALREADY);
        }
        int pair = train * MAX_TRAINS + other;
        return answerIfAny(when ? now.past.meetingMinute[pair] : now.past.meetingStation[pair]);
    }

    public int passes(int train, int other) {
        if (!isTrain(train) || !isTrain(other)) {
            return refuse(NO_SUCH);
        }
        if (train == other) {
            return refuse(SO_ALREADY);
        }
        return answer(Integer.bitCount(now.past.meetings[train * MAX_TRAINS + other]));
    }

    public int stood(int station) {
        if (!isStation(station)) {
            return refuse(NO_SUCH);
        }
        return answer(now.past.stoodAt[station]);
    }

    public int late(int train, int station) {
        if (!isTrain(train) || !isStation(station)) {
            return refuse(NO_SUCH);
        }
        int came = now.came[train * MAX_STATIONS + station];
        if (came == NONE) {
            return refuse(NOTHING);
        }
        int alone = now.start[train];
        if (station != told.from[train]) {
            alone += 1 + told.rideTo(train, station);
        }
        return answer(came - alone);
    }

    public int event(int k, int what) {
        if (k < NONE || !isWithin(what, 0, k == NONE ? 0 : 3)) {
            return refuse(BAD_NUMBER);
        }
        if (k == NONE) {
            return answer(now.past.events);
        }
        if (k >= now.past.events) {
            return refuse(NOTHING);
        }
        return answer(now.past.facts[4 * k + what]);
    }

    public int use(int section) {
        if (!isSection(section)) {
            return refuse(NO_SUCH);
        }
        return answer(now.used[section]);
    }

    public int gone(int section, int k) {
        if (k < NONE) {
            return refuse(BAD_NUMBER);
        }
        if (!isSection(section)) {
            return refuse(NO_SUCH);
        }
        int riders = now.past.riders[section];
        if (k == NONE) {
            return answer(riders);
        }
        if (k >= riders) {
            return refuse(NOTHING);
        }
        return answer(now.past.riderRow[section * MAX_TRAINS + k]);
    }

    public int waits(int train) {
        if (!isTrain(train)) {
            return refuse(NO_SUCH);
        }
        return answer(now.past.waited[train]);
    }

    // ---- what would be

    public int ahead(int n, boolean care, int what) {
        if (!isWithin(n, 0, MAX_GO) || !isWithin(what, 0, 5)) {
            return refuse(BAD_NUMBER);
        }
        State then = forecast.afterMinutes(now, n, care);
        switch (what) {
            case 0: return answer(then.count(DONE));
            case 1: return answer(then.price(NONE));
            case 2: return answer(then.isSafe() ? 1 : 0);
            case 3: return answer(then.isStuck() ? 1 : 0);
            case 4: return answer(then.count(ON));
            default: return answer(then.count(OUT));
        }
    }

    public int ends(boolean care, int what) {
        if (!isWithin(what, 0, 4)) {
            return refuse(BAD_NUMBER);
        }
        State then = forecast.atEnd(now, care);
        switch (what) {
            case 0: return answer(then.price(NONE));
            case 1: return answer(then.minute);
            case 2: return answer(then.count(DONE));
            case 3: return answer(then.isStuck() ? 1 : 0);
            default: return answer(then.allUse());
        }
    }

    public int when(int train) {
        if (!isTrain(train)) {
            return refuse(NO_SUCH);
        }
        if (now.phase[train] == DONE) {
            return refuse(SO_ALREADY);
        }
        State then = forecast.atEnd(now, true);
        return answerIfAny(then.came[train * MAX_STATIONS + told.to[train]]);
    }

    public int plan(int k) {
        if (k < NONE) {
            return refuse(BAD_NUMBER);
        }
        if (k >= told.trains) {
            return refuse(NOTHING);
        }
        int price = forecast.findPlan(now);
        return answer(k == NONE ? price : forecast.best[k]);
    }

    public int cost(int train, int n) {
        if (!isWithin(n, 1, MAX_GO)) {
            return refuse(BAD_NUMBER);
        }
        if (!isTrain(train)) {
            return refuse(NO_SUCH);
        }
        if (now.phase[train] == DONE) {
            return refuse(SO_ALREADY);
        }
        return answer(forecast.priceHeld(now, train, n) - forecast.price(now));
    }

    public int slack(int train) {
        if (!isTrain(train)) {
            return refuse(NO_SUCH);
        }
        if (now.phase[train] == DONE) {
            return refuse(SO_ALREADY);
        }
        int price = forecast.priceHeld(now, train, 0);
        for (int n = 1; n <= MAX_GO; n++) {
            if (forecast.priceHeld(now, train, n) > price) {
                return answer(n - 1);
            }
        }
        return answer(MAX_GO);
    }

    public int band(int train, boolean price) {
        if (!isTrain(train)) {
            return refuse(NO_SUCH);
        }
        if (now.phase[train] != OUT) {
            return refuse(NOTHING);
        }
        int best = 0;
        int least = forecast.priceStarting(now, train, 0);
        for (int minute = 1; minute <= MAX_BAND; minute++) {
            int there = forecast.priceStarting(now, train, minute);
            if (there < least) {
                best = minute;
                least = there;
            }
        }
        return answer(price ? least : best);
    }

    public int swap(int train, int other) {
        if (!isTrain(train) || !isTrain(other)) {
            return refuse(NO_SUCH);
        }
        if (train == other) {
            return refuse(SO_ALREADY);
        }
        return answer(forecast.price(now) - forecast.priceSwapped(now, train, other));
    }

    public int burden(boolean price) {
        int best = NONE;
        int least = NONE;
        for (int t = 0; t < told.trains; t++) {
            int there = forecast.priceWithout(now, t);
            if (best == NONE || there < least) {
                best = t;
                least = there;
            }
        }
        return best == NONE ? refuse(NOTHING) : answer(price ? least : best);
    }

    public int loop(int station, int length) {
        if (!isWithin(length, 1, LONGEST)) {
            return refuse(BAD_NUMBER);
        }
        if (!isStation(station)) {
            return refuse(NO_SUCH);
        }
        if (told.tracks[station] >= MAX_TRACKS) {
            return refuse(TOO_MANY);
        }
        return answer(forecast.price(now) - forecast.priceWithTrack(now, station, length));
    }

    public int build() {
        int best = NONE;
        int least = NONE;
        for (int s = 0; s < told.stations; s++) {
            if (told.tracks[s] < MAX_TRACKS) {
                int there = forecast.priceWithTrack(now, s, LONGEST);
                if (best == NONE || there < least) {
                    best = s;
                    least = there;
                }
            }
        }
        return best == NONE ? refuse(NOTHING) : answer(best);
    }

    // ---- acts

    public int go(int n, boolean care) {
        if (!isWithin(n, 1, MAX_GO)) {
            return refuse(BAD_NUMBER);
        }
        if (now.minute + n > MAX_MINUTE) {
            return refuse(TOO_MANY);
        }
        acts.remember(now);
        now.advance(n, care, false);
        return answer(now.minute);
    }

    public int hold(int train, int n) {
        if (!isWithin(n, 1, MAX_GO)) {
            return refuse(BAD_NUMBER);
        }
        if (!isTrain(train)) {
            return refuse(NO_SUCH);
        }
        if (now.phase[train] == DONE) {
            return refuse(SO_ALREADY);
        }
        acts.remember(now);
        now.held[train] = now.minute + n;
        return answer(now.held[train]);
    }

    public int shut(int station, int track, boolean yes) {
        if (!isTrack(station, track)) {
            return refuse(NO_SUCH);
        }
        int bit = 1 << station * MAX_TRACKS + track;
        boolean isShut = (now.shut & bit) != 0;
        if (isShut == yes) {
            return refuse(SO_ALREADY);
        }
        acts.remember(now);
        now.shut ^= bit;
        return answer(Integer.bitCount(now.freeCells()));
    }

    public int rank(int row) {
        if (!forecast.readRank(row, told.trains)) {
            return refuse(BAD_NUMBER);
        }
        int same = now.sameInRank(forecast.best);
        if (same == told.trains) {
            return refuse(SO_ALREADY);
        }
        acts.remember(now);
        System.arraycopy(forecast.best, 0, now.rank, 0, MAX_TRAINS);
        return answer(same);
    }

    public int start(int train, int minute) {
        if (!isWithin(minute, 0, MAX_START)) {
            return refuse(BAD_NUMBER);
        }
        if (!isTrain(train)) {
            return refuse(NO_SUCH);
        }
        int before = now.start[train];
        if (before == minute) {
            return refuse(SO_ALREADY);
        }
        if (now.phase[train] != OUT) {
            return refuse(NOTHING);
        }
        acts.remember(now);
        now.start[train] = minute;
        return answer(before);
    }

    public int stall(int train, int n) {
        if (!isWithin(n, 1, MAX_GO)) {
            return refuse(BAD_NUMBER);
        }
        if (!isTrain(train)) {
            return refuse(NO_SUCH);
        }
        if (now.phase[train] != ON) {
            return refuse(NOTHING);
        }
        acts.remember(now);
        now.due[train] += n;
        return answer(now.due[train]);
    }

    public int link(int train, int station, int other) {
        if (!isTrain(train) || !isStation(station) || !isTrain(other)) {
            return refuse(NO_SUCH);
        }
        if (train == other || now.hasLink(train, station, other)) {
            return refuse(SO_ALREADY);
        }
        if (now.links >= MAX_LINKS) {
            return refuse(TOO_MANY);
        }
        acts.remember(now);
        now.addLink(train, station, other);
        return answer(now.links - 1);
    }

    public int cut(int link) {
        if (link < 0) {
            return refuse(BAD_NUMBER);
        }
        if (link >= now.links) {
            return refuse(NOTHING);
        }
        acts.remember(now);
        now.removeLink(link);
        return answer(now.links);
    }

    public int undo() {
        if (acts.count == 0) {
            return refuse(NOTHING);
        }
        acts.takeBack(now);
        return answer(acts.count);
    }

    public int print() {
        sheet.write(told, now);
        return answer(sheet.length);
    }

    public int out(int i) throws NoSuchElementException {
        if (i < 0 || i >= sheet.length) {
            throw new NoSuchElementException("OUT has no such byte");
        }
        return sheet.bytes[i];
    }

    private int answer(int value) {
        status = OK;
        return value;
    }

    private int answerIfAny(int value) {
        return value == NONE ? refuse(NOTHING) : answer(value);
    }

    private int refuse(int reason) {
        status = reason;
        return NONE;
    }

    private static boolean isWithin(int value, int least, int most) {
        return value >= least && value <= most;
    }

    private boolean isStation(int station) {
        return station >= 0 && station < told.stations;
    }

    private boolean isTrack(int station, int track) {
        return isStation(station) && track >= 0 && track < told.tracks[station];
    }

    private boolean isTrain(int train) {
        return train >= 0 && train < told.trains;
    }

    private boolean isSection(int section) {
        return section >= 0 && section < told.stations - 1;
    }

    /** What a TEXT tells, and what follows from it alone. */
    private static final class Layout {
        int stations;
        final long[] stationName = new long[MAX_STATIONS];
        final int[] run = new int[MAX_STATIONS];
        final int[] tracks = new int[MAX_STATIONS];
        final int[] length = new int[CELLS];

        int trains;
        final long[] trainName = new long[MAX_TRAINS];
        final int[] size = new int[MAX_TRAINS];
        final int[] from = new int[MAX_TRAINS];
        final int[] to = new int[MAX_TRAINS];
        final int[] start = new int[MAX_TRAINS];
        final int[] slow = new int[MAX_TRAINS];
        final int[] weight = new int[MAX_TRAINS];

        /** All tracks, as bits of their cells. */
        int cells;
        /** The tracks that a train FITS, as bits of their cells. */
        final int[] fit = new int[MAX_TRAINS];
        /** By train and station: the stations between that one and TO, as bits of their first cells. */
        final int[] way = new int[MAX_TRAINS * MAX_STATIONS];
        /** By train and section: the RUN of the train on it. */
        final int[] ride = new int[MAX_TRAINS * MAX_SECTIONS];
        final int[] lone = new int[MAX_TRAINS];

        void clear() {
            stations = 0;
            trains = 0;
        }

        /** Works out what follows; due whenever stations, tracks or trains have changed. */
        void settle() {
            cells = 0;
            for (int s = 0; s < stations; s++) {
                cells |= cellsOf(s);
            }
            for (int t = 0; t < trains; t++) {
                settleFit(t);
                settleWay(t);
            }
        }

        private void settleFit(int t) {
            fit[t] = 0;
            for (int c = 0; c < CELLS; c++) {
                if ((cells >> c & 1) != 0 && length[c] >= size[t]) {
                    fit[t] |= 1 << c;
                }
            }
        }

        private void settleWay(int t) {
            for (int k = 0; k < stations - 1; k++) {
                // half as much more for each 1 of SLOW, rounded up
                ride[t * MAX_SECTIONS + k] = (run[k + 1] * (2 + slow[t]) + 1) / 2;
            }
            lone[t] = rideTo(t, to[t]);
            for (int s = 0; s < stations; s++) {
                int bits = 0;
                for (int b = Math.min(s, to[t]) + 1; b < Math.max(s, to[t]); b++) {
                    bits |= 1 << b * MAX_TRACKS;
                }
                way[t * MAX_STATIONS + s] = bits;
            }
        }

        /** RUNS of the train on all sections from FROM to a station, added. */
        int rideTo(int t, int station) {
            int sum = 0;
            for (int k = Math.min(from[t], station); k < Math.max(from[t], station); k++) {
                sum += ride[t * MAX_SECTIONS + k];
            }
            return sum;
        }

        int cellsOf(int station) {
            return (1 << tracks[station]) - 1 << station * MAX_TRACKS;
        }

        int longest(int station) {
            int most = 0;
            for (int k = 0; k < tracks[station]; k++) {
                most = Math.max(most, length[station * MAX_TRACKS + k]);
            }
            return most;
        }

        /** The same line with a track more; the names are left out, as no forecast asks for them. */
        void copyWithTrack(Layout other, int station, int newLength) {
            stations = other.stations;
            System.arraycopy(other.run, 0, run, 0, MAX_STATIONS);
            System.arraycopy(other.tracks, 0, tracks, 0, MAX_STATIONS);
            System.arraycopy(other.length, 0, length, 0, CELLS);
            trains = other.trains;
            System.arraycopy(other.size, 0, size, 0, MAX_TRAINS);
            System.arraycopy(other.from, 0, from, 0, MAX_TRAINS);
            System.arraycopy(other.to, 0, to, 0, MAX_TRAINS);
            System.arraycopy(other.slow, 0, slow, 0, MAX_TRAINS);
            System.arraycopy(other.weight, 0, weight, 0, MAX_TRAINS);
            if (tracks[station] < MAX_TRACKS) {
                length[station * MAX_TRACKS + tracks[station]] = newLength;
                tracks[station]++;
            }
            settle();
        }
    }

    /** What was, as far as no forecast asks for it. */
    private static final class Past {
        /** By two trains: where and behind which minute they were first TOGETHER; at which stations at all, as bits. */
        final int[] meetingStation = new int[MAX_TRAINS * MAX_TRAINS];
        final int[] meetingMinute = new int[MAX_TRAINS * MAX_TRAINS];
        final int[] meetings = new int[MAX_TRAINS * MAX_TRAINS];
        final int[] stoodAt = new int[MAX_STATIONS];
        final int[] waited = new int[MAX_TRAINS];
        /** By section: how many trains went on it, and which. */
        final int[] riders = new int[MAX_SECTIONS];
        final int[] riderRow = new int[MAX_SECTIONS * MAX_TRAINS];
        /** Four facts of each event: the train, the kind, the minute, the station. */
        final int[] facts = new int[4 * MAX_EVENTS];
        int events;
        /** A forecast's past is not kept: nothing is noted in it. */
        private final boolean kept;

        Past(boolean kept) {
            this.kept = kept;
        }

        void reset() {
            Arrays.fill(meetingStation, NONE);
            Arrays.fill(meetingMinute, NONE);
            Arrays.fill(meetings, 0);
            Arrays.fill(stoodAt, 0);
            Arrays.fill(waited, 0);
            Arrays.fill(riders, 0);
            events = 0;
        }

        void copyFrom(Past other) {
            if (!kept) {
                return;
            }
            System.arraycopy(other.meetingStation, 0, meetingStation, 0, meetingStation.length);
            System.arraycopy(other.meetingMinute, 0, meetingMinute, 0, meetingMinute.length);
            System.arraycopy(other.meetings, 0, meetings, 0, meetings.length);
            System.arraycopy(other.stoodAt, 0, stoodAt, 0, stoodAt.length);
            System.arraycopy(other.waited, 0, waited, 0, waited.length);
            System.arraycopy(other.riders, 0, riders, 0, riders.length);
            System.arraycopy(other.riderRow, 0, riderRow, 0, riderRow.length);
            System.arraycopy(other.facts, 0, facts, 0, facts.length);
            events = other.events;
        }

        void note(int train, int kind, int minute, int station) {
            if (!kept || events >= MAX_EVENTS) {
                return;
            }
            facts[4 * events] = train;
            facts[4 * events + 1] = kind;
            facts[4 * events + 2] = minute;
            facts[4 * events + 3] = station;
            events++;
        }

        void noteRider(int section, int train) {
            if (!kept || riders[section] >= MAX_TRAINS) {
                return;
            }
            riderRow[section * MAX_TRAINS + riders[section]] = train;
            riders[section]++;
        }

        /** As many minutes as told have ended, the first of them the state's, with all trains where they are now. */
        void noteMinutes(State state, int count) {
            if (!kept) {
                return;
            }
            for (int t = 0; t < state.layout.trains; t++) {
                if (state.phase[t] == IN) {
                    waited[t] += count;
                    stoodAt[state.spot[t]] += count;
                    noteMeetings(state, t, state.trainsIn(state.spot[t]) & ~(1 << t));
                }
            }
        }

        private void noteMeetings(State state, int t, int others) {
            for (int u = 0; u < MAX_TRAINS; u++) {
                if ((others >> u & 1) != 0) {
                    int pair = t * MAX_TRAINS + u;
                    if (meetings[pair] == 0) {
                        meetingStation[pair] = state.spot[t];
                        meetingMinute[pair] = state.minute;
                    }
                    meetings[pair] |= 1 << state.spot[t];
                }
            }
        }
    }

    /** Finds out whether all trains that are IN or ON can still get through. */
    private static final class Safety {
        /** The trains in the order in which the latest question took them away. */
        final int[] row = new int[MAX_TRAINS];
        int rowLength;
        private final int[] seat = new int[MAX_TRAINS];

        /**
         * The trains that can't be taken away, as bits, if the mover had the target (a cell, or HOME);
         * without a mover (NONE) as all stand. It is SAFE if there are none.
         */
        int leftStanding(State state, int mover, int target) {
            Layout layout = state.layout;
            int standing = 0;
            int taken = 0;
            for (int t = 0; t < layout.trains; t++) {
                seat[t] = t == mover ? target : state.cell[t];
                if (seat[t] >= 0 && seat[t] < CELLS) {
                    standing |= 1 << t;
                    taken |= 1 << seat[t];
                }
            }
            rowLength = 0;
            for (int round = 0; round < MAX_TRAINS && standing != 0; round++) {
                int gone = firstThrough(layout, standing, ~(taken | state.shut));
                if (gone == NONE) {
                    return standing;
                }
                row[rowLength] = gone;
                rowLength++;
                standing &= ~(1 << gone);
                taken &= ~(1 << seat[gone]);
            }
            return standing;
        }

        private int firstThrough(Layout layout, int standing, int open) {
            for (int t = 0; t < layout.trains; t++) {
                if ((standing >> t & 1) != 0) {
                    int free = layout.fit[t] & open;
                    // each station's first bit: whether any of its three cells is free
                    int passable = free | free >> 1 | free >> 2;
                    int way = layout.way[t * MAX_STATIONS + seat[t] / MAX_TRACKS];
                    if ((passable & way) == way) {
                        return t;
                    }
                }
            }
            return NONE;
        }
    }

    /** How things stand, and the rules by which they move. */
    private static final class State {
        Layout layout;
        int minute;
        /** The cells that are SHUT, and those that a train is IN or has KEPT, as bits. */
        int shut;
        int busy;
        final int[] rank = new int[MAX_TRAINS];
        final int[] start = new int[MAX_TRAINS];
        final int[] phase = new int[MAX_TRAINS];
        /** The station that a train is IN, or from which it went. */
        final int[] spot = new int[MAX_TRAINS];
        /** The cell that a train is IN, or that is KEPT for it. */
        final int[] cell = new int[MAX_TRAINS];
        /** The minute in which a train that is ON ARRIVES. */
        final int[] due = new int[MAX_TRAINS];
        /** The first minute in which a train is not HELD any more. */
        final int[] held = new int[MAX_TRAINS];
        final int[] rider = new int[MAX_SECTIONS];
        final int[] used = new int[MAX_SECTIONS];
        /** By train and station. */
        final int[] came = new int[MAX_TRAINS * MAX_STATIONS];
        final int[] left = new int[MAX_TRAINS * MAX_STATIONS];
        int links;
        /** Three facts of each link: the train, the station, the other train. */
        final int[] linked = new int[3 * MAX_LINKS];
        final Safety safety = new Safety();
        final Past past;

        State(boolean keepsPast) {
            past = new Past(keepsPast);
        }

        void reset(Layout text) {
            layout = text;
            minute = 0;
            shut = 0;
            busy = 0;
            links = 0;
            System.arraycopy(text.start, 0, start, 0, MAX_TRAINS);
            Arrays.fill(phase, OUT);
            Arrays.fill(spot, NONE);
            Arrays.fill(cell, NONE);
            Arrays.fill(due, NONE);
            Arrays.fill(held, 0);
            Arrays.fill(rider, NONE);
            Arrays.fill(used, 0);
            Arrays.fill(came, NONE);
            Arrays.fill(left, NONE);
            rankByWeight();
            past.reset();
        }

        private void rankByWeight() {
            Arrays.fill(rank, 0);
            for (int t = 0; t < layout.trains; t++) {
                int place = t;
                for (; place > 0 && layout.weight[rank[place - 1]] < layout.weight[t]; place--) {
                    rank[place] = rank[place - 1];
                }
                rank[place] = t;
            }
        }

        void copyFrom(State other) {
            layout = other.layout;
            minute = other.minute;
            shut = other.shut;
            busy = other.busy;
            links = other.links;
            System.arraycopy(other.rank, 0, rank, 0, MAX_TRAINS);
            System.arraycopy(other.start, 0, start, 0, MAX_TRAINS);
            System.arraycopy(other.phase, 0, phase, 0, MAX_TRAINS);
            System.arraycopy(other.spot, 0, spot, 0, MAX_TRAINS);
            System.arraycopy(other.cell, 0, cell, 0, MAX_TRAINS);
            System.arraycopy(other.due, 0, due, 0, MAX_TRAINS);
            System.arraycopy(other.held, 0, held, 0, MAX_TRAINS);
            System.arraycopy(other.rider, 0, rider, 0, MAX_SECTIONS);
            System.arraycopy(other.used, 0, used, 0, MAX_SECTIONS);
            System.arraycopy(other.came, 0, came, 0, came.length);
            System.arraycopy(other.left, 0, left, 0, left.length);
            System.arraycopy(other.linked, 0, linked, 0, linked.length);
            past.copyFrom(other.past);
        }

        // -- questions

        int count(int asked) {
            int trains = 0;
            for (int t = 0; t < layout.trains; t++) {
                if (phase[t] == asked) {
                    trains++;
                }
            }
            return trains;
        }

        int delay(int t) {
            if (phase[t] != DONE) {
                return NONE;
            }
            return came[t * MAX_STATIONS + layout.to[t]] - start[t] - layout.lone[t];
        }

        int greatestDelay() {
            int most = 0;
            for (int t = 0; t < layout.trains; t++) {
                most = Math.max(most, delay(t));
            }
            return most;
        }

        /** PRICE of all trains but one; of all, if that is NONE. */
        int price(int without) {
            int sum = 0;
            for (int t = 0; t < layout.trains; t++) {
                if (t != without) {
                    sum += layout.weight[t] * (phase[t] == DONE ? delay(t) : PRICE_OF_LATE);
                }
            }
            return sum;
        }

        int allUse() {
            int sum = 0;
            for (int k = 0; k < MAX_SECTIONS; k++) {
                sum += used[k];
            }
            return sum;
        }

        int freeCells() {
            return layout.cells & ~busy & ~shut;
        }

        /** The trains that are IN a track of a station, as bits. */
        int trainsIn(int station) {
            int bits = 0;
            for (int t = 0; t < layout.trains; t++) {
                if (phase[t] == IN && spot[t] == station) {
                    bits |= 1 << t;
                }
            }
            return bits;
        }

        int trainWith(int asked) {
            for (int t = 0; t < layout.trains; t++) {
                if (cell[t] == asked) {
                    return t;
                }
            }
            return NONE;
        }

        int stationOf(int t) {
            return phase[t] == IN || phase[t] == ON ? spot[t] : NONE;
        }

        int trackOf(int t) {
            return cell[t] == NONE ? NONE : cell[t] % MAX_TRACKS;
        }

        int minutesToGo(int t) {
            return phase[t] == ON ? due[t] - minute : NONE;
        }

        int heldTill(int t) {
            return held[t] > minute ? held[t] : NONE;
        }

        int placeInRank(int t) {
            for (int place = 0; place < layout.trains; place++) {
                if (rank[place] == t) {
                    return place;
                }
            }
            return NONE;
        }

        int sameInRank(int[] other) {
            int same = 0;
            for (int place = 0; place < layout.trains && place < other.length; place++) {
                if (rank[place] == other[place]) {
                    same++;
                }
            }
            return same;
        }

        boolean isSafe() {
            return safety.leftStanding(this, NONE, NONE) == 0;
        }

        boolean isWeak(int asked) {
            int before = shut;
            shut |= 1 << asked;
            boolean weak = shut != before && !isSafe();
            shut = before;
            return weak;
        }

        boolean isStuck() {
            boolean anyIn = false;
            for (int t = 0; t < layout.trains; t++) {
                if (phase[t] == ON || canMove(t)) {
                    return false;
                }
                anyIn = anyIn || phase[t] == IN;
            }
            return anyIn;
        }

        /** Whether a train could COME IN or GO, HELD or not, without CARE. */
        boolean canMove(int t) {
            return (phase[t] == OUT || phase[t] == IN) && target(t) >= 0;
        }

        /** Why a train can't COME IN or GO, as why() tells it. */
        int reason(int t) {
            if (phase[t] == DONE) {
                return 1;
            }
            if (phase[t] == ON) {
                return 2;
            }
            int target = target(t);
            if (target == SECTION_TAKEN) {
                return 4;
            }
            if (target == NO_TRACK) {
                return 3;
            }
            return safety.leftStanding(this, t, target) == 0 ? 0 : 5;
        }

        /** The trains that one WAITS FOR, as bits. */
        int waitsFor(int t) {
            if (phase[t] != IN || canMove(t)) {
                return 0;
            }
            int on = rider[sectionAhead(t)];
            if (on != NONE) {
                return 1 << on;
            }
            int there = layout.fit[t] & layout.cellsOf(nextStation(t));
            int bits = 0;
            for (int u = 0; u < layout.trains; u++) {
                if (cell[u] != NONE && (there >> cell[u] & 1) != 0) {
                    bits |= 1 << u;
                }
            }
            return bits;
        }

        boolean isInRing(int t) {
            int reached = waitsFor(t);
            for (int round = 0; round < layout.trains; round++) {
                for (int u = 0; u < layout.trains; u++) {
                    if ((reached >> u & 1) != 0) {
                        reached |= waitsFor(u);
                    }
                }
            }
            return (reached >> t & 1) != 0;
        }

        private int nextStation(int t) {
            return spot[t] < layout.to[t] ? spot[t] + 1 : spot[t] - 1;
        }

        /** The section behind which the next station lies. */
        private int sectionAhead(int t) {
            return spot[t] < layout.to[t] ? spot[t] : spot[t] - 1;
        }

        /** What a train that is OUT or IN would take by its move: a cell, HOME; or why it can't move. */
        private int target(int t) {
            if (phase[t] == OUT) {
                return freeCell(t, layout.from[t]);
            }
            if (rider[sectionAhead(t)] != NONE) {
                return SECTION_TAKEN;
            }
            int next = nextStation(t);
            return next == layout.to[t] ? HOME : freeCell(t, next);
        }

        /** The shortest FREE track of a station that a train FITS, the first one of several. */
        private int freeCell(int t, int station) {
            int free = layout.fit[t] & ~busy & ~shut;
            int best = NO_TRACK;
            for (int c = station * MAX_TRACKS; c < (station + 1) * MAX_TRACKS; c++) {
                if ((free >> c & 1) != 0 && (best == NO_TRACK || layout.length[c] < layout.length[best])) {
                    best = c;
                }
            }
            return best;
        }

        // -- links

        boolean hasLink(int train, int station, int other) {
            for (int k = 0; k < links; k++) {
                if (linked[3 * k] == train && linked[3 * k + 1] == station && linked[3 * k + 2] == other) {
                    return true;
                }
            }
            return false;
        }

        boolean linkKeeps(int k) {
            int t = linked[3 * k];
            int station = linked[3 * k + 1];
            int other = linked[3 * k + 2];
            return phase[t] == IN && spot[t] == station
                && phase[other] != DONE && came[other * MAX_STATIONS + station] == NONE;
        }

        private boolean isKept(int t) {
            for (int k = 0; k < links; k++) {
                if (linked[3 * k] == t && linkKeeps(k)) {
                    return true;
                }
            }
            return false;
        }

        void addLink(int train, int station, int other) {
            if (links >= MAX_LINKS) {
                return;
            }
            linked[3 * links] = train;
            linked[3 * links + 1] = station;
            linked[3 * links + 2] = other;
            links++;
        }

        void removeLink(int k) {
            for (int i = 3 * k; i < 3 * (links - 1); i++) {
                linked[i] = linked[i + 3];
            }
            links--;
        }

        // -- moves

        /**
         * Lets minutes go by; only till all are DONE or it is STUCK, if so asked; answers PRICE then.
         */
        int advance(int minutes, boolean care, boolean toTheEnd) {
            int last = minute + minutes;
            for (int i = 0; i < minutes && minute < last; i++) {
                if (toTheEnd && (count(DONE) == layout.trains || isStuck())) {
                    break;
                }
                if (!passMinute(care)) {
                    // till something is due each minute is like this one, in which nothing moved
                    endMinutes(nextDue(last) - minute);
                }
            }
            return price(NONE);
        }

        /** One minute; answers whether a train moved in it. */
        private boolean passMinute(boolean care) {
            boolean moved = false;
            for (int t = 0; t < layout.trains; t++) {
                if (phase[t] == ON && due[t] <= minute) {
                    arrive(t);
                    moved = true;
                }
            }
            // each train has one try, so one that comes in does not go in the same minute
            for (int place = 0; place < layout.trains; place++) {
                if (tryMove(rank[place], care)) {
                    moved = true;
                }
            }
            endMinutes(1);
            return moved;
        }

        /** The first minute from now on in which a train may move that can't till then; the last one, if none is ahead of it. */
        private int nextDue(int last) {
            int next = last;
            for (int t = 0; t < layout.trains; t++) {
                if (phase[t] == ON) {
                    next = Math.min(next, due[t]);
                }
                if (held[t] >= minute) {
                    next = Math.min(next, held[t]);
                }
                if (phase[t] == OUT && start[t] >= minute) {
                    next = Math.min(next, start[t]);
                }
            }
            return next;
        }

        private void endMinutes(int count) {
            if (count <= 0) {
                return;
            }
            for (int k = 0; k < MAX_SECTIONS; k++) {
                if (rider[k] != NONE) {
                    used[k] += count;
                }
            }
            past.noteMinutes(this, count);
            minute += count;
        }

        private boolean tryMove(int t, boolean care) {
            if (held[t] > minute || phase[t] == ON || phase[t] == DONE) {
                return false;
            }
            if (phase[t] == OUT ? start[t] > minute : isKept(t)) {
                return false;
            }
            int target = target(t);
            if (target < 0 || care && safety.leftStanding(this, t, target) != 0) {
                return false;
            }
            if (phase[t] == OUT) {
                comeIn(t, target);
            } else {
                leave(t, target);
            }
            return true;
        }

        private void comeIn(int t, int target) {
            phase[t] = IN;
            spot[t] = layout.from[t];
            came[t * MAX_STATIONS + spot[t]] = minute;
            takeCell(t, target);
            past.note(t, CAME_IN, minute, spot[t]);
        }

        private void leave(int t, int target) {
            int section = sectionAhead(t);
            phase[t] = ON;
            rider[section] = t;
            due[t] = minute + layout.ride[t * MAX_SECTIONS + section];
            left[t * MAX_STATIONS + spot[t]] = minute;
            takeCell(t, target == HOME ? NONE : target);
            past.note(t, WENT, minute, spot[t]);
            past.noteRider(section, t);
        }

        private void arrive(int t) {
            rider[sectionAhead(t)] = NONE;
            spot[t] = nextStation(t);
            phase[t] = spot[t] == layout.to[t] ? DONE : IN;
            came[t * MAX_STATIONS + spot[t]] = minute;
            past.note(t, ARRIVED, minute, spot[t]);
        }

        private void takeCell(int t, int target) {
            if (cell[t] != NONE) {
                busy &= ~(1 << cell[t]);
            }
            cell[t] = target;
            if (target != NONE) {
                busy |= 1 << target;
            }
        }

        /** Takes a train out of the line. It counts as DONE, so that nobody is kept for it. */
        void remove(int t) {
            if (phase[t] == ON) {
                rider[sectionAhead(t)] = NONE;
            }
            takeCell(t, NONE);
            phase[t] = DONE;
        }
    }

    /** The acts that can be undone: how things stood ahead of each. */
    private static final class Acts {
        private final State[] before = new State[MAX_UNDO];
        private int next;
        int count;

        Acts() {
            for (int i = 0; i < MAX_UNDO; i++) {
                before[i] = new State(true);
            }
        }

        void forget() {
            count = 0;
        }

        void remember(State state) {
            before[next].copyFrom(state);
            next = (next + 1) % MAX_UNDO;
            count = Math.min(count + 1, MAX_UNDO);
        }

        void takeBack(State state) {
            next = (next + MAX_UNDO - 1) % MAX_UNDO;
            count--;
            state.copyFrom(before[next]);
        }
    }

    /** What would be. Prices are those TO THE END, with CARE. */
    private static final class Forecast {
        private final State trial = new State(false);
        private final Layout wider = new Layout();
        private final int[] order = new int[MAX_TRAINS];
        /** The rank that findPlan() found or readRank() read. */
        final int[] best = new int[MAX_TRAINS];

        State afterMinutes(State now, int minutes, boolean care) {
            trial.copyFrom(now);
            trial.advance(minutes, care, false);
            return trial;
        }

        State atEnd(State now, boolean care) {
            trial.copyFrom(now);
            trial.advance(END_MINUTES, care, true);
            return trial;
        }

        int price(State now) {
            trial.copyFrom(now);
            return trial.advance(END_MINUTES, true, true);
        }

        int priceHeld(State now, int train, int minutes) {
            trial.copyFrom(now);
            trial.held[train] = now.minute + minutes;
            return trial.advance(END_MINUTES, true, true);
        }

        int priceStarting(State now, int train, int minute) {
            trial.copyFrom(now);
            trial.start[train] = minute;
            return trial.advance(END_MINUTES, true, true);
        }

        int priceSwapped(State now, int train, int other) {
            trial.copyFrom(now);
            for (int place = 0; place < MAX_TRAINS; place++) {
                if (now.rank[place] == train) {
                    trial.rank[place] = other;
                } else if (now.rank[place] == other) {
                    trial.rank[place] = train;
                }
            }
            return trial.advance(END_MINUTES, true, true);
        }

        int priceWithout(State now, int train) {
            trial.copyFrom(now);
            trial.remove(train);
            trial.advance(END_MINUTES, true, true);
            return trial.price(train);
        }

        int priceWithTrack(State now, int station, int length) {
            trial.copyFrom(now);
            wider.copyWithTrack(now.layout, station, length);
            trial.layout = wider;
            return trial.advance(END_MINUTES, true, true);
        }

        /** Puts PLAN into best and answers its price. */
        int findPlan(State now) {
            int trains = now.layout.trains;
            for (int i = 0; i < MAX_TRAINS; i++) {
                order[i] = i;
            }
            int least = NONE;
            boolean more = true;
            for (int tried = 0; tried < MAX_RANKS && more; tried++) {
                trial.copyFrom(now);
                System.arraycopy(order, 0, trial.rank, 0, trains);
                int price = trial.advance(END_MINUTES, true, true);
                if (least == NONE || price < least) {
                    least = price;
                    System.arraycopy(order, 0, best, 0, MAX_TRAINS);
                }
                more = nextOrder(trains);
            }
            return least;
        }

        /** The next order, train by train the lesser number first; false behind the last one. */
        private boolean nextOrder(int trains) {
            int rise = trains - 2;
            while (rise >= 0 && order[rise] > order[rise + 1]) {
                rise--;
            }
            if (rise < 0) {
                return false;
            }
            int next = trains - 1;
            while (next > rise && order[next] < order[rise]) {
                next--;
            }
            exchange(rise, next);
            for (int a = rise + 1, b = trains - 1; a < b; a++, b--) {
                exchange(a, b);
            }
            return true;
        }

        private void exchange(int a, int b) {
            int kept = order[a];
            order[a] = order[b];
            order[b] = kept;
        }

        /** Puts the rank that a row of digits tells into best; false if it is not each train once. */
        boolean readRank(int row, int trains) {
            if (row < 0) {
                return false;
            }
            Arrays.fill(best, 0);
            int seen = 0;
            int rest = row;
            for (int place = trains - 1; place >= 0; place--) {
                int digit = rest % 10;
                if (digit >= trains || (seen >> digit & 1) != 0) {
                    return false;
                }
                seen |= 1 << digit;
                best[place] = digit;
                rest /= 10;
            }
            return rest == 0;
        }
    }

    /** The tape, and the TOKENS of a text on it. */
    private static final class Tokens {
        static final int END = 0;
        static final int WORD = 1;
        static final int NUMBER = 2;
        static final int SIGN = 3;
        static final int BAD = 4;

        private final byte[] tape = new byte[MAX_TEXT];
        int length;
        private int end;
        private int next;

        int kind;
        /** The first byte of the token. */
        int place;
        /** The letters of a word, eight bits each, the last one the lowest. */
        long word;
        int number;

        boolean hasRoom(int bytes) {
            return length + bytes <= MAX_TEXT;
        }

        void append(int four) {
            if (!hasRoom(4)) {
                return;
            }
            for (int shift = 24; shift >= 0; shift -= 8) {
                tape[length] = (byte) (four >> shift);
                length++;
            }
        }

        void clear() {
            length = 0;
        }

        void open(int n) {
            end = Math.min(n, length);
            next = 0;
        }

        void advance() {
            while (next < end && (tape[next] == 10 || tape[next] == 32)) {
                next++;
            }
            place = next;
            if (next >= end) {
                kind = END;
                return;
            }
            int first = tape[next];
            if (first >= 'a' && first <= 'z') {
                readWord();
            } else if (first >= '0' && first <= '9') {
                readNumber();
            } else {
                kind = first == ';' ? SIGN : BAD;
                next++;
            }
        }

        boolean isWord(long asked) {
            return kind == WORD && word == asked;
        }

        private void readWord() {
            word = 0;
            while (next < end && tape[next] >= 'a' && tape[next] <= 'z') {
                word = word << 8 | tape[next];
                next++;
            }
            kind = next - place <= 8 ? WORD : BAD;
        }

        private void readNumber() {
            number = 0;
            while (next < end && tape[next] >= '0' && tape[next] <= '9') {
                number = 10 * number + tape[next] - '0';
                next++;
            }
            kind = next - place <= 3 ? NUMBER : BAD;
        }
    }

    /** Reads a TEXT into a layout, up to the first FAULT. */
    private static final class Reader {
        static final long STATION = 0x73746174696f6eL;
        static final long TRAIN = 0x747261696eL;
        static final long SLOW = 0x736c6f77L;
        static final long WEIGHT = 0x776569676874L;

        private static final int NO_TOKEN = 1;
        private static final int OUT_OF_PLACE = 2;
        private static final int WRONG_NUMBER = 3;
        private static final int WRONG_NAME = 4;
        private static final int ONE_TOO_MANY = 5;

        private final Tokens tokens;
        private Layout layout;
        /** Of the latest text: the kind of its fault (0: none), and where; NONE ahead of any. */
        int fault = NONE;
        int place = NONE;

        Reader(Tokens tokens) {
            this.tokens = tokens;
        }

        /** Whether the first n bytes of the tape are a text without a fault. */
        boolean read(int n, Layout into) {
            layout = into;
            layout.clear();
            tokens.open(n);
            fault = 0;
            place = NONE;
            for (int lines = 0; lines <= n; lines++) {
                tokens.advance();
                if (tokens.kind == Tokens.END) {
                    break;
                }
                boolean good = tokens.isWord(STATION) ? readStation()
                    : tokens.isWord(TRAIN) ? readTrain() : failHere();
                if (!good) {
                    break;
                }
            }
            return fault == 0;
        }

        private boolean readStation() {
            int s = layout.stations;
            if (s >= MAX_STATIONS) {
                return fail(ONE_TOO_MANY);
            }
            if (!takeNewName()) {
                return false;
            }
            layout.stationName[s] = tokens.word;
            if (!takeNumber(s == 0 ? 0 : 1, 30)) {
                return false;
            }
            layout.run[s] = tokens.number;
            if (!readTracks(s)) {
                return false;
            }
            layout.stations++;
            return true;
        }

        private boolean readTracks(int s) {
            for (int k = 0; k <= MAX_TRACKS; k++) {
                tokens.advance();
                if (k > 0 && tokens.kind == Tokens.SIGN) {
                    layout.tracks[s] = k;
                    return true;
                }
                if (!isNumber(1, LONGEST)) {
                    return false;
                }
                if (k < MAX_TRACKS) {
                    layout.length[s * MAX_TRACKS + k] = tokens.number;
                }
            }
            return fail(ONE_TOO_MANY);
        }

        private boolean readTrain() {
            int t = layout.trains;
            if (t >= MAX_TRAINS) {
                return fail(ONE_TOO_MANY);
            }
            if (!takeNewName()) {
                return false;
            }
            layout.trainName[t] = tokens.word;
            if (!takeNumber(1, LONGEST)) {
                return false;
            }
            layout.size[t] = tokens.number;
            layout.from[t] = takeStation(NONE);
            if (fault != 0) {
                return false;
            }
            layout.to[t] = takeStation(layout.from[t]);
            if (fault != 0 || !takeNumber(0, MAX_START)) {
                return false;
            }
            layout.start[t] = tokens.number;
            if (!readManner(t)) {
                return false;
            }
            layout.trains++;
            return true;
        }

        /** What may stand at the end of a train's line. */
        private boolean readManner(int t) {
            layout.slow[t] = 0;
            layout.weight[t] = 1;
            tokens.advance();
            if (tokens.isWord(SLOW)) {
                if (!takeNumber(0, 3)) {
                    return false;
                }
                layout.slow[t] = tokens.number;
                tokens.advance();
            }
            if (tokens.isWord(WEIGHT)) {
                if (!takeNumber(1, 9)) {
                    return false;
                }
                layout.weight[t] = tokens.number;
                tokens.advance();
            }
            return tokens.kind == Tokens.SIGN || failHere();
        }

        private boolean takeNumber(int least, int most) {
            tokens.advance();
            return isNumber(least, most);
        }

        private boolean isNumber(int least, int most) {
            if (tokens.kind != Tokens.NUMBER) {
                return failHere();
            }
            return isWithin(tokens.number, least, most) || fail(WRONG_NUMBER);
        }

        private boolean takeName() {
            tokens.advance();
            boolean ownWord = tokens.isWord(STATION) || tokens.isWord(TRAIN)
                || tokens.isWord(SLOW) || tokens.isWord(WEIGHT);
            return tokens.kind == Tokens.WORD && !ownWord || failHere();
        }

        private boolean takeNewName() {
            if (!takeName()) {
                return false;
            }
            boolean taken = stationNamed(tokens.word) != NONE;
            for (int t = 0; t < layout.trains; t++) {
                taken = taken || layout.trainName[t] == tokens.word;
            }
            return !taken || fail(WRONG_NAME);
        }

        /** The station told ahead whose name comes next, unlike another one; NONE with a fault. */
        private int takeStation(int unlike) {
            if (!takeName()) {
                return NONE;
            }
            int station = stationNamed(tokens.word);
            if (station == NONE || station == unlike) {
                fail(WRONG_NAME);
                return NONE;
            }
            return station;
        }

        private int stationNamed(long name) {
            for (int s = 0; s < layout.stations; s++) {
                if (layout.stationName[s] == name) {
                    return s;
                }
            }
            return NONE;
        }

        /** The token at hand can't stand where it does. */
        private boolean failHere() {
            fault = tokens.kind == Tokens.BAD ? NO_TOKEN : OUT_OF_PLACE;
            place = tokens.place;
            return false;
        }

        private boolean fail(int kind) {
            fault = kind;
            place = tokens.place;
            return false;
        }
    }

    /** OUT: the text that print() writes. */
    private static final class Sheet {
        final byte[] bytes = new byte[MAX_TEXT];
        int length;

        void write(Layout layout, State state) {
            length = 0;
            for (int s = 0; s < layout.stations; s++) {
                writeStation(layout, s);
            }
            for (int t = 0; t < layout.trains; t++) {
                writeTrain(layout, t, state.start[t]);
            }
        }

        private void writeStation(Layout layout, int s) {
            putWord(Reader.STATION);
            put(' ');
            putWord(layout.stationName[s]);
            putNumber(layout.run[s]);
            for (int k = 0; k < layout.tracks[s]; k++) {
                putNumber(layout.length[s * MAX_TRACKS + k]);
            }
            put(';');
        }

        private void writeTrain(Layout layout, int t, int start) {
            putWord(Reader.TRAIN);
            put(' ');
            putWord(layout.trainName[t]);
            putNumber(layout.size[t]);
            putStationName(layout, layout.from[t]);
            putStationName(layout, layout.to[t]);
            putNumber(start);
            put(' ');
            putWord(Reader.SLOW);
            putNumber(layout.slow[t]);
            put(' ');
            putWord(Reader.WEIGHT);
            putNumber(layout.weight[t]);
            put(';');
        }

        private void putStationName(Layout layout, int s) {
            if (s >= 0 && s < layout.stations) {
                put(' ');
                putWord(layout.stationName[s]);
            }
        }

        private void putWord(long word) {
            for (int shift = 56; shift >= 0; shift -= 8) {
                int letter = (int) (word >> shift & 255);
                if (letter != 0) {
                    put(letter);
                }
            }
        }

        /** A blank and a number of at most three digits. */
        private void putNumber(int number) {
            put(' ');
            if (number >= 100) {
                put('0' + number / 100);
            }
            if (number >= 10) {
                put('0' + number / 10 % 10);
            }
            put('0' + number % 10);
        }

        private void put(int letter) {
            if (length < MAX_TEXT) {
                bytes[length] = (byte) letter;
                length++;
            }
        }
    }
}
