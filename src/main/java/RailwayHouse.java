/**
 * A railway's house: layout, routes, an interlocking of three channels, trains, berths, a disk,
 * a timetable with journeys and seats, and the best order of trains on a single line.
 *
 * Sets of sections, points and signals are kept as the bits of one int, since there are few of each.
 */
public final class RailwayHouse {
    public static final int UNKNOWN = -1, OUTSIDE = -2, STATE = -3, ROOM = -4, NONE = -9;

    private static final int MOST_SECTIONS = 24, MOST_SIGNALS = 16, MOST_ROUTES = 40;
    private static final int MOST_IN_WAY = 8, MOST_NEEDS = 17;
    private static final int ENDS = 3, CHANNELS = 3;
    private static final int CALLED = 1, READY = 2, CLEAR = 3, IN_USE = 4;
    private static final int WAITING = 5, FORCED_FREE = 6, OVERTIME = 7;
    private static final int ORDER_SET = 0, ORDER_CANCEL = 1, ORDER_RELEASE = 2, ORDER_MOVE = 3;
    private static final int STATIONS = 8;

    private final Reader reader;
    private final Layout layout;
    private final Ways ways;
    private final Reports reports;
    private final Vote votes;
    private final Yard yard;
    private final Timetable timetable;
    private final Journeys journeys;
    private final Line single;
    private final int[] berths;
    private int lost;
    private int time;

    public RailwayHouse() {
        reader = new Reader();
        layout = new Layout();
        ways = new Ways(layout);
        reports = new Reports(layout);
        votes = new Vote(ways, reports);
        yard = new Yard(layout);
        timetable = new Timetable();
        journeys = new Journeys(timetable);
        single = new Line();
        berths = new int[MOST_SIGNALS];
        beginYard();
    }

    // ---- the layout

    public int feed(int a, int b, int c, int d, int e) {
        if (!reader.hasRoom(20)) {
            return ROOM;
        }
        reader.append(a);
        reader.append(b);
        reader.append(c);
        reader.append(d);
        reader.append(e);
        return reader.length;
    }

    public int end(int n) {
        if (n < 0 || n > reader.length) {
            return OUTSIDE;
        }
        reader.length = n;
        return n;
    }

    public int load() {
        if (!reader.readAll()) {
            return -10 - reader.flaw;
        }
        reader.length = 0;
        layout.copyFrom(reader.made);
        ways.findAll();
        beginYard();
        return layout.sections;
    }

    public int place() {
        return reader.flawAt;
    }

    public int section(int section, int what) {
        if (!layout.hasSection(section)) {
            return UNKNOWN;
        }
        if (what < 0 || what > 8) {
            return OUTSIDE;
        }
        return layout.tellSection(section, what);
    }

    public int signal(int signal, int what) {
        if (!layout.hasSignal(signal)) {
            return UNKNOWN;
        }
        switch (what) {
            case 0:
                return layout.signalEnds[signal] / ENDS;
            case 1:
                return layout.signalEnds[signal] % ENDS;
            case 2:
                return bitOf(votes.proceeding, signal);
            case 3:
                return berths[signal];
            default:
                return OUTSIDE;
        }
    }

    public int route(int route, int what) {
        if (!ways.hasRoute(route)) {
            return UNKNOWN;
        }
        switch (what) {
            case 0:
                return ways.signals[route];
            case 1:
                return ways.lasts[route];
            case 2:
                return ways.sizes[route];
            case 3:
                return ways.overlaps[route];
            case 4:
                return ways.needCounts[route];
            default:
                return OUTSIDE;
        }
    }

    public int routeSection(int route, int k) {
        if (!ways.hasRoute(route)) {
            return UNKNOWN;
        }
        return k < 0 || k >= ways.sizes[route] ? NONE : ways.sections[route * MOST_IN_WAY + k];
    }

    public int routeNeed(int route, int k) {
        if (!ways.hasRoute(route)) {
            return UNKNOWN;
        }
        return k < 0 || k >= ways.needCounts[route] ? NONE : ways.needs[route * MOST_NEEDS + k];
    }

    public int conflict(int route, int other) {
        if (!ways.hasRoute(route) || !ways.hasRoute(other)) {
            return UNKNOWN;
        }
        return ways.conflictOf(route, other);
    }

    // ---- orders

    public int set(int route) {
        return ways.hasRoute(route) ? votes.order(ORDER_SET, route, 0) : UNKNOWN;
    }

    public int cancel(int route) {
        return ways.hasRoute(route) ? votes.order(ORDER_CANCEL, route, 0) : UNKNOWN;
    }

    public int release(int route) {
        return ways.hasRoute(route) ? votes.order(ORDER_RELEASE, route, 0) : UNKNOWN;
    }

    public int move(int point, int lie) {
        if (!layout.isPoint(point)) {
            return UNKNOWN;
        }
        if (lie < 0 || lie > 1) {
            return OUTSIDE;
        }
        return votes.order(ORDER_MOVE, point, lie);
    }

    public int routeAt(int channel, int route, int what) {
        if (!isChannel(channel) || !ways.hasRoute(route)) {
            return UNKNOWN;
        }
        if (what < 0 || what > 5) {
            return OUTSIDE;
        }
        return votes.channels[channel].tell(route, what);
    }

    public int holder(int section) {
        return layout.hasSection(section) ? votes.house().holderOf(section) : UNKNOWN;
    }

    // ---- reports

    public int force(int kind, int section, int v) {
        if (!isReported(kind, section)) {
            return UNKNOWN;
        }
        if (kind < 0 || kind > 1 || v < -2 || v > 3) {
            return OUTSIDE;
        }
        reports.forceTo(kind, section, v);
        return 1;
    }

    public int used(int kind, int section) {
        if (!isReported(kind, section)) {
            return UNKNOWN;
        }
        if (kind < 0 || kind > 1) {
            return OUTSIDE;
        }
        return kind == 0 ? bitOf(reports.occupied, section) : reports.lieUsed(section);
    }

    private boolean isReported(int kind, int section) {
        return kind == 1 ? layout.isPoint(section) : layout.hasSection(section);
    }

    // ---- channels

    public int fault(int channel, int kind) {
        if (!isChannel(channel)) {
            return UNKNOWN;
        }
        if (kind < 0 || kind > 5) {
            return OUTSIDE;
        }
        int had = votes.channels[channel].flaw;
        votes.channels[channel].flaw = kind;
        return had;
    }

    public int channel(int channel, int what) {
        if (!isChannel(channel)) {
            return UNKNOWN;
        }
        switch (what) {
            case 0:
                return votes.channels[channel].voting ? 1 : 0;
            case 1:
                return votes.channels[channel].flaw;
            default:
                return OUTSIDE;
        }
    }

    public int reset() {
        if (votes.powerless || (!votes.down && votes.allVote())) {
            return STATE;
        }
        if (votes.down && yard.isMoving()) {
            return STATE;
        }
        votes.resetByHand(yard.liesToOne());
        return 1;
    }

    private static boolean isChannel(int channel) {
        return channel >= 0 && channel < CHANNELS;
    }

    // ---- the yard

    public int lie(int point) {
        return layout.isPoint(point) ? yard.lies[point] : UNKNOWN;
    }

    public int block(int point, boolean on) {
        if (!layout.isPoint(point)) {
            return UNKNOWN;
        }
        int was = bitOf(yard.blocked, point);
        yard.blocked = withBit(yard.blocked, point, on);
        return was;
    }

    public int enter(int section, int length, int greatest, int brake, int number) {
        if (!layout.hasSection(section)) {
            return UNKNOWN;
        }
        int inward = layout.borderInto(section);
        if (inward == NONE || !isWithin(length, 1, 30) || !isWithin(greatest, 1, 9)
                || !isWithin(brake, 1, 5) || !isWithin(number, 1, 9999)) {
            return OUTSIDE;
        }
        if (yard.firstOn(section) != NONE || votes.house().holderOf(section) != NONE) {
            return STATE;
        }
        if (!yard.hasRoom()) {
            return ROOM;
        }
        int train = yard.bringIn(inward, length, greatest, brake, number);
        putNumber(layout.signalOf(layout.wayOut(inward, 0)), number);
        return train;
    }

    public int stand(int train, boolean on) {
        Train t = yard.trainOf(train);
        if (t == null) {
            return UNKNOWN;
        }
        if (t.gone) {
            return STATE;
        }
        int was = t.standing ? 1 : 0;
        t.standing = on;
        return was;
    }

    public int train(int train, int what) {
        Train t = yard.trainOf(train);
        if (t == null) {
            return UNKNOWN;
        }
        if (what < 0 || what > 6) {
            return OUTSIDE;
        }
        return t.tell(what);
    }

    public int leave(int train) {
        Train t = yard.trainOf(train);
        if (t == null) {
            return UNKNOWN;
        }
        return t.gone ? STATE : yard.leaveOf(t, votes.proceeding);
    }

    public int trainOn(int section) {
        return layout.hasSection(section) ? yard.firstOn(section) : UNKNOWN;
    }

    public int tick(int n) {
        if (n < 1 || n > 50) {
            return OUTSIDE;
        }
        if (layout.sections == 0) {
            return STATE;
        }
        for (int i = 0; i < n; i++) {
            passOneTick();
        }
        return time;
    }

    public int interpose(int signal, int number) {
        if (!layout.hasSignal(signal)) {
            return UNKNOWN;
        }
        if (!isWithin(number, 0, 9999)) {
            return OUTSIDE;
        }
        int was = berths[signal];
        berths[signal] = number;
        return was;
    }

    public int audit() {
        int wrong = votes.firstWrong();
        if (wrong != 0) {
            return wrong;
        }
        return yard.twoOnOne() ? 5 : 0;
    }

    private void passOneTick() {
        time++;
        yard.pointsGoOn(votes.commands);
        yard.trainsMove(votes.proceeding);
        reports.come(yard.swept, yard.lies);
        votes.passTick();
        stepBerths();
        timetable.endHolds(time);
    }

    /** Numbers go on with the routes that came into use in this tick; a house that is down shows none. */
    private void stepBerths() {
        if (votes.down) {
            return;
        }
        Channel house = votes.house();
        for (int r = 0; r < ways.count; r++) {
            if (house.cameIntoUse(r)) {
                stepNumber(ways.signals[r], ways.lasts[r]);
            }
        }
    }

    private void stepNumber(int from, int to) {
        if (!layout.hasSignal(from) || berths[from] == 0) {
            return;
        }
        int number = berths[from];
        berths[from] = 0;
        if (layout.hasSignal(to)) {
            putNumber(to, number);
        }
    }

    private void putNumber(int signal, int number) {
        if (!layout.hasSignal(signal)) {
            return;
        }
        if (berths[signal] != 0) {
            lost++;
        }
        berths[signal] = number;
    }

    /** All that goes on in the layout and its routes begins anew. */
    private void beginYard() {
        reports.forget();
        reports.freeAll();
        votes.begin();
        yard.begin();
        for (int i = 0; i < MOST_SIGNALS; i++) {
            berths[i] = 0;
        }
        lost = 0;
        time = 0;
    }

    // ---- the disk

    public int sync() {
        if (votes.powerless || votes.down) {
            return STATE;
        }
        return votes.writeDisk();
    }

    public int cut() {
        if (votes.powerless) {
            return STATE;
        }
        votes.losePower();
        return 1;
    }

    public int start() {
        if (!votes.powerless) {
            return STATE;
        }
        reports.forget();
        return votes.startFromDisk(yard.liesToOne());
    }

    // ---- the timetable

    public int station(int station, int change, int zone) {
        if (!isStation(station)) {
            return UNKNOWN;
        }
        if (!isWithin(change, 0, 60) || !isWithin(zone, 0, 9)) {
            return OUTSIDE;
        }
        timetable.changes[station] = change;
        timetable.zones[station] = zone;
        return 1;
    }

    public int run(int seats) {
        if (!isWithin(seats, 1, Timetable.MOST_SEATS)) {
            return OUTSIDE;
        }
        return timetable.runs >= Timetable.MOST_RUNS ? ROOM : timetable.addRun(seats);
    }

    public int stopAt(int run, int station, int arrival, int departure) {
        if (!timetable.hasRun(run) || !isStation(station)) {
            return UNKNOWN;
        }
        if (!isWithin(arrival, 0, 10000) || !isWithin(departure, arrival, 10000)
                || arrival < timetable.lastDeparture(run)) {
            return OUTSIDE;
        }
        if (timetable.stops[run] >= Timetable.MOST_STOPS) {
            return ROOM;
        }
        return timetable.addStop(run, station, arrival, departure);
    }

    public int journey(int from, int to, int time) {
        if (!isStation(from) || !isStation(to)) {
            return UNKNOWN;
        }
        if (!isWithin(time, 0, 10000) || from == to) {
            return OUTSIDE;
        }
        return journeys.findAll(from, to, time);
    }

    public int option(int k, int what) {
        if (!journeys.hasOption(k)) {
            return UNKNOWN;
        }
        switch (what) {
            case 0:
                return journeys.arrivals[k];
            case 1:
                return journeys.legCounts[k] - 1;
            case 2:
                return journeys.fares[k];
            case 3:
                return journeys.legCounts[k];
            default:
                return OUTSIDE;
        }
    }

    public int leg(int k, int j, int what) {
        if (!journeys.hasOption(k)) {
            return UNKNOWN;
        }
        if (what < 0 || what > 2) {
            return OUTSIDE;
        }
        return j < 0 || j >= journeys.legCounts[k] ? NONE : journeys.tellLeg(k, j, what);
    }

    public int hold(int run, int from, int to, int until) {
        if (!timetable.hasStop(run, from) || !timetable.hasStop(run, to)) {
            return UNKNOWN;
        }
        if (from >= to || !isWithin(until, 0, 1000000)) {
            return OUTSIDE;
        }
        int seat = timetable.firstSeat(run, from, to);
        if (seat == NONE) {
            return STATE;
        }
        if (timetable.held >= Timetable.MOST_HELD || timetable.holds >= Timetable.MOST_HOLDS) {
            return ROOM;
        }
        return timetable.addHold(run, from, to, until, seat);
    }

    public int pay(int hold) {
        if (!timetable.hasHold(hold)) {
            return UNKNOWN;
        }
        if (timetable.holdStates[hold] != Timetable.COUNTS) {
            return STATE;
        }
        timetable.holdStates[hold] = Timetable.PAID;
        return 1;
    }

    public int give(int hold) {
        if (!timetable.hasHold(hold)) {
            return UNKNOWN;
        }
        if (timetable.holdStates[hold] == Timetable.GONE) {
            return STATE;
        }
        timetable.endHold(hold);
        return 1;
    }

    public int holdAt(int hold, int what) {
        if (!timetable.hasHold(hold)) {
            return UNKNOWN;
        }
        switch (what) {
            case 0:
                return timetable.holdSeats[hold];
            case 1:
                return timetable.holdStates[hold];
            case 2:
                return timetable.holdRuns[hold];
            default:
                return OUTSIDE;
        }
    }

    private static boolean isStation(int station) {
        return station >= 0 && station < STATIONS;
    }

    // ---- the single line

    public int line(int direction, int ready, int takes, int due, int weight) {
        if (!isWithin(direction, 0, 1) || !isWithin(ready, 0, 1000) || !isWithin(takes, 1, 100)
                || !isWithin(due, 0, 2000) || !isWithin(weight, 0, 20)) {
            return OUTSIDE;
        }
        return single.size >= Line.MOST ? ROOM : single.add(direction, ready, takes, due, weight);
    }

    public int clearLine() {
        int were = single.size;
        single.size = 0;
        return were;
    }

    public int dispatch() {
        return single.findBest();
    }

    public int turn(int k, int what) {
        if (what < 0 || what > 2) {
            return OUTSIDE;
        }
        return k < 0 || k >= single.ordered ? NONE : single.tell(k, what);
    }

    public int count(int what) {
        switch (what) {
            case 0:
                return layout.sections;
            case 1:
                return layout.signals;
            case 2:
                return ways.count;
            case 3:
                return time;
            case 4:
                return yard.present;
            case 5:
                return yard.came;
            case 6:
                return votes.down ? 1 : 0;
            case 7:
                return votes.powerless ? 1 : 0;
            case 8:
                return votes.releases;
            case 9:
                return lost;
            case 10:
                return timetable.runs;
            case 11:
                return timetable.held;
            case 12:
                return timetable.holds;
            case 13:
                return single.size;
            case 14:
                return reader.length;
            default:
                return OUTSIDE;
        }
    }

    public int clear() {
        int was = time;
        reader.begin();
        layout.wipe();
        ways.findAll();
        beginYard();
        timetable.begin();
        journeys.options = 0;
        single.size = 0;
        single.ordered = 0;
        return was;
    }

    private static boolean isWithin(int number, int low, int high) {
        return number >= low && number <= high;
    }

    private static int bitOf(int bits, int k) {
        return (bits >>> k) & 1;
    }

    private static int withBit(int bits, int k, boolean on) {
        return on ? bits | (1 << k) : bits & ~(1 << k);
    }

    /** The sections, how they are joined, and the signals; an end is told as 3 times its section and 0, 1, 2. */
    private static final class Layout {
        int sections;
        int signals;
        final int[] kinds = new int[MOST_SECTIONS];
        final int[] lengths = new int[MOST_SECTIONS];
        final int[] limits = new int[MOST_SECTIONS];
        final int[] stations = new int[MOST_SECTIONS];
        final int[] joints = new int[MOST_SECTIONS * ENDS];
        final int[] signalsAt = new int[MOST_SECTIONS * ENDS];
        final int[] signalEnds = new int[MOST_SIGNALS];

        void wipe() {
            sections = 0;
            signals = 0;
        }

        void copyFrom(Layout other) {
            sections = other.sections;
            signals = other.signals;
            System.arraycopy(other.kinds, 0, kinds, 0, MOST_SECTIONS);
            System.arraycopy(other.lengths, 0, lengths, 0, MOST_SECTIONS);
            System.arraycopy(other.limits, 0, limits, 0, MOST_SECTIONS);
            System.arraycopy(other.stations, 0, stations, 0, MOST_SECTIONS);
            System.arraycopy(other.joints, 0, joints, 0, MOST_SECTIONS * ENDS);
            System.arraycopy(other.signalsAt, 0, signalsAt, 0, MOST_SECTIONS * ENDS);
            System.arraycopy(other.signalEnds, 0, signalEnds, 0, MOST_SIGNALS);
        }

        void addSection(int kind, int length, int limit) {
            if (sections >= MOST_SECTIONS) {
                return;
            }
            kinds[sections] = kind;
            lengths[sections] = length;
            limits[sections] = limit;
            stations[sections] = NONE;
            for (int end = 0; end < ENDS; end++) {
                joints[sections * ENDS + end] = NONE;
                signalsAt[sections * ENDS + end] = NONE;
            }
            sections++;
        }

        void addJoint(int end, int other) {
            joints[end] = other;
            joints[other] = end;
        }

        void addSignal(int end) {
            if (signals >= MOST_SIGNALS) {
                return;
            }
            signalsAt[end] = signals;
            signalEnds[signals] = end;
            signals++;
        }

        boolean hasSection(int section) {
            return section >= 0 && section < sections;
        }

        boolean hasSignal(int signal) {
            return signal >= 0 && signal < signals;
        }

        /** The signal at an end; NONE, if there is none, or no such end. */
        int signalOf(int end) {
            return end >= 0 && end < sections * ENDS ? signalsAt[end] : NONE;
        }

        boolean isPoint(int section) {
            return section >= 0 && section < sections && kinds[section] == 1;
        }

        int tellSection(int section, int what) {
            switch (what) {
                case 0:
                    return kinds[section];
                case 1:
                    return lengths[section];
                case 2:
                    return limits[section];
                case 3:
                    return stations[section];
                case 4:
                case 5:
                case 6:
                    return joints[section * ENDS + what - 4];
                case 7:
                case 8:
                    return signalsAt[section * ENDS + what - 7];
                default:
                    return NONE;
            }
        }

        /** The end by which one leaves who comes in by an end; NONE: the point does not let it through. */
        int wayOut(int into, int lie) {
            int section = into / ENDS;
            int end = into % ENDS;
            if (section < 0 || section >= sections) {
                return NONE;
            }
            if (kinds[section] == 0) {
                return end == 0 ? into + 1 : into - 1;
            }
            if (lie < 0 || lie > 1) {
                return NONE;
            }
            if (end == 0) {
                return into + 1 + lie;
            }
            return end == lie + 1 ? into - end : NONE;
        }

        /** The end by which a train may come in from outside; NONE: the section is none for that. */
        int borderInto(int section) {
            if (!hasSection(section) || isPoint(section)) {
                return NONE;
            }
            int a = section * ENDS;
            if (joints[a] == NONE && signalsAt[a + 1] != NONE) {
                return a;
            }
            return joints[a + 1] == NONE && signalsAt[a] != NONE ? a + 1 : NONE;
        }
    }

    /** The tape, and the reading of a layout from it. */
    private static final class Reader {
        private static final int MOST_BYTES = 2000;
        private static final int TEXT_END = 0, NUMBER = 1, WORD = 2, SEMICOLON = 3;
        private static final int BLANK = 32, NEW_LINE = 10;

        final byte[] tape = new byte[MOST_BYTES];
        final Layout made = new Layout();
        int length = 0;
        int flaw = 0;
        int flawAt = NONE;
        private int next = 0;
        private int token = TEXT_END;
        private int tokenAt = 0;
        private int value = 0;

        void begin() {
            length = 0;
            flawAt = NONE;
        }

        boolean hasRoom(int bytes) {
            return length + bytes <= MOST_BYTES;
        }

        void append(int four) {
            if (!hasRoom(4)) {
                return;
            }
            for (int shift = 24; shift >= 0; shift -= 8) {
                tape[length] = (byte) (four >>> shift);
                length++;
            }
        }

        /** Reads the whole tape into a layout of its own; false: there is a flaw. */
        boolean readAll() {
            made.wipe();
            next = 0;
            flaw = 0;
            flawAt = NONE;
            // Each statement takes at least one byte, so there are no more than bytes.
            for (int n = 0; n <= length && flaw == 0; n++) {
                scan();
                if (flaw == 0 && token == TEXT_END) {
                    checkWhole();
                    return flaw == 0;
                }
                readStatement();
            }
            return false;
        }

        private void fail(int kind) {
            if (flaw == 0) {
                flaw = kind;
                flawAt = tokenAt;
            }
        }

        private void scan() {
            if (flaw != 0) {
                return;
            }
            int at = next;
            while (at < length && (tape[at] == BLANK || tape[at] == NEW_LINE)) {
                at++;
            }
            tokenAt = at;
            next = at;
            if (at >= length) {
                token = TEXT_END;
            } else if (tape[at] == ';') {
                token = SEMICOLON;
                next = at + 1;
            } else if (isDigit(tape[at])) {
                scanNumber();
            } else if (isLetter(tape[at])) {
                scanWord();
            } else {
                fail(1);
            }
        }

        private void scanNumber() {
            token = NUMBER;
            value = 0;
            int at = tokenAt;
            while (at < length && isDigit(tape[at])) {
                value = at - tokenAt < 4 ? value * 10 + tape[at] - '0' : value;
                at++;
            }
            next = at;
            if (at - tokenAt > 4) {
                fail(1);
            }
        }

        private void scanWord() {
            token = WORD;
            int at = tokenAt;
            while (at < length && isLetter(tape[at])) {
                at++;
            }
            next = at;
            if (at - tokenAt > 8) {
                fail(1);
            }
        }

        private static boolean isDigit(int b) {
            return b >= '0' && b <= '9';
        }

        private static boolean isLetter(int b) {
            return b >= 'a' && b <= 'z';
        }

        private boolean isWord(String word) {
            if (next - tokenAt != word.length()) {
                return false;
            }
            for (int i = 0; i < word.length(); i++) {
                if (tape[tokenAt + i] != word.charAt(i)) {
                    return false;
                }
            }
            return true;
        }

        private void readStatement() {
            if (flaw != 0) {
                return;
            }
            if (token != WORD) {
                fail(2);
            } else if (isWord("plain")) {
                readSection(0);
            } else if (isWord("point")) {
                readSection(1);
            } else if (isWord("join")) {
                readJoin();
            } else if (isWord("signal")) {
                readSignal();
            } else if (isWord("stop")) {
                readStop();
            } else {
                fail(3);
            }
        }

        private void readSection(int kind) {
            if (made.sections >= MOST_SECTIONS) {
                fail(7);
            }
            int size = readNumber(1, 60);
            int limit = readNumber(1, 9);
            readSemicolon();
            if (flaw == 0) {
                made.addSection(kind, size, limit);
            }
        }

        private void readJoin() {
            int end = readEnd(readNumber(0, made.sections - 1));
            if (flaw == 0 && made.joints[end] != NONE) {
                fail(5);
            }
            int other = readEnd(readNumber(0, made.sections - 1));
            if (flaw == 0 && (made.joints[other] != NONE || other == end)) {
                fail(5);
            }
            readSemicolon();
            if (flaw == 0) {
                made.addJoint(end, other);
            }
        }

        private void readSignal() {
            if (made.signals >= MOST_SIGNALS) {
                fail(7);
            }
            int section = readNumber(0, made.sections - 1);
            if (flaw == 0 && made.isPoint(section)) {
                fail(6);
            }
            int end = readEnd(section);
            if (flaw == 0 && made.signalsAt[end] != NONE) {
                fail(5);
            }
            readSemicolon();
            if (flaw == 0) {
                made.addSignal(end);
            }
        }

        private void readStop() {
            int section = readNumber(0, made.sections - 1);
            if (flaw == 0 && made.stations[section] != NONE) {
                fail(5);
            }
            if (flaw == 0 && made.isPoint(section)) {
                fail(6);
            }
            int station = readNumber(0, STATIONS - 1);
            readSemicolon();
            if (flaw == 0) {
                made.stations[section] = station;
            }
        }

        private int readNumber(int low, int high) {
            scan();
            if (flaw == 0 && token != NUMBER) {
                fail(2);
            }
            if (flaw == 0 && (value < low || value > high)) {
                fail(4);
            }
            return flaw == 0 ? value : 0;
        }

        private int readEnd(int section) {
            scan();
            if (flaw == 0 && token != WORD) {
                fail(2);
            }
            if (flaw != 0) {
                return 0;
            }
            String letters = made.isPoint(section) ? "tlr" : "ab";
            int end = next - tokenAt == 1 ? letters.indexOf((char) tape[tokenAt]) : -1;
            if (end < 0) {
                fail(3);
                return 0;
            }
            return section * ENDS + end;
        }

        private void readSemicolon() {
            scan();
            if (flaw == 0 && token != SEMICOLON) {
                fail(2);
            }
        }

        private void checkWhole() {
            if (made.sections == 0) {
                fail(8);
            }
            for (int i = 0; i < made.signals; i++) {
                if (made.joints[made.signalEnds[i]] == NONE) {
                    fail(8);
                }
            }
        }
    }

    /** The routes that a layout has, with what each of them holds and binds. */
    private static final class Ways {
        private static final int STEPS = MOST_IN_WAY + 1;
        private static final int FOR_OVERLAP = 1 << MOST_IN_WAY;

        final Layout layout;
        int count = 0;
        final int[] signals = new int[MOST_ROUTES];
        final int[] lasts = new int[MOST_ROUTES];
        final int[] overlaps = new int[MOST_ROUTES];
        final int[] sizes = new int[MOST_ROUTES];
        final int[] needCounts = new int[MOST_ROUTES];
        final int[] sections = new int[MOST_ROUTES * MOST_IN_WAY];
        final int[] needs = new int[MOST_ROUTES * MOST_NEEDS];
        // By route and by how many sections were given back: sections held, points bound to 0 and to 1.
        private final int[] held = new int[MOST_ROUTES * STEPS];
        private final int[] boundToZero = new int[MOST_ROUTES * STEPS];
        private final int[] boundToOne = new int[MOST_ROUTES * STEPS];
        private final int[] overlapBits = new int[MOST_ROUTES];
        // The way that is being looked at: the ends by which it comes in and goes out, and its needs.
        private final int[] ins = new int[MOST_IN_WAY];
        private final int[] outs = new int[MOST_IN_WAY];
        private final int[] wanted = new int[MOST_NEEDS];
        private final int[] reasons = new int[MOST_NEEDS];
        private int wantedCount = 0;
        private boolean torn = false;
        private int signal = 0;

        Ways(Layout layout) {
            this.layout = layout;
        }

        boolean hasRoute(int route) {
            return route >= 0 && route < count;
        }

        int heldSections(int route, int given) {
            return held[route * STEPS + given];
        }

        int heldOverlap(int route) {
            return overlapBits[route];
        }

        int boundTo(int lie, int route, int given) {
            return lie == 0 ? boundToZero[route * STEPS + given] : boundToOne[route * STEPS + given];
        }

        /** The bits of all that must be free for a route. */
        int ground(int route) {
            return heldSections(route, 0) | overlapBits[route];
        }

        /** The points that do not lie as a route needs them. */
        int wrongPoints(int route, Reports reports) {
            return (boundTo(0, route, 0) & ~reports.liesToZero) | (boundTo(1, route, 0) & ~reports.liesToOne);
        }

        int firstSection(int route) {
            return 1 << sections[route * MOST_IN_WAY];
        }

        int conflictOf(int route, int other) {
            if (route == other) {
                return 0;
            }
            int sum = 0;
            int mine = heldSections(route, 0);
            int its = heldSections(other, 0);
            if ((mine & its) != 0) {
                sum += 1;
            }
            if ((mine & overlapBits[other]) != 0 || (its & overlapBits[route]) != 0) {
                sum += 2;
            }
            if ((boundTo(0, route, 0) & boundTo(1, other, 0)) != 0
                    || (boundTo(1, route, 0) & boundTo(0, other, 0)) != 0) {
                sum += 4;
            }
            return signals[route] == signals[other] ? sum + 8 : sum;
        }

        void findAll() {
            count = 0;
            for (int i = 0; i < layout.signals; i++) {
                signal = i;
                comeIn(layout.signalEnds[i], 0);
            }
        }

        private void comeIn(int leaving, int depth) {
            int into = layout.joints[leaving];
            if (into == NONE || depth >= MOST_IN_WAY || isOnWay(into / ENDS, depth)) {
                return;
            }
            ins[depth] = into;
            if (layout.isPoint(into / ENDS) && into % ENDS == 0) {
                goOut(into + 1, depth);
                goOut(into + 2, depth);
            } else {
                goOut(layout.wayOut(into, into % ENDS - 1), depth);
            }
        }

        private void goOut(int out, int depth) {
            if (out == NONE) {
                return;
            }
            outs[depth] = out;
            if (layout.signalsAt[out] != NONE || layout.joints[out] == NONE) {
                finish(depth + 1);
            } else {
                comeIn(out, depth + 1);
            }
        }

        /** Whether a section is the signal's own or one of the first ones of the way. */
        private boolean isOnWay(int section, int size) {
            return section == layout.signalEnds[signal] / ENDS || isInWay(section, size);
        }

        private boolean isInWay(int section, int size) {
            for (int i = 0; i < size; i++) {
                if (ins[i] / ENDS == section) {
                    return true;
                }
            }
            return false;
        }

        private void finish(int size) {
            if (count >= MOST_ROUTES) {
                return;
            }
            int lastEnd = outs[size - 1];
            int behind = layout.signalsAt[lastEnd] == NONE ? NONE : layout.joints[lastEnd];
            if (behind != NONE && isOnWay(behind / ENDS, size)) {
                behind = NONE;
            }
            findNeeds(size, behind);
            if (torn) {
                return;
            }
            signals[count] = signal;
            lasts[count] = layout.signalsAt[lastEnd];
            sizes[count] = size;
            overlaps[count] = behind == NONE ? NONE : behind / ENDS;
            overlapBits[count] = behind == NONE ? 0 : 1 << (behind / ENDS);
            for (int i = 0; i < size; i++) {
                sections[count * MOST_IN_WAY + i] = ins[i] / ENDS;
            }
            keepNeeds();
            keepHeld(size);
            count++;
        }

        private void findNeeds(int size, int behind) {
            wantedCount = 0;
            torn = false;
            for (int i = 0; i < size; i++) {
                if (layout.isPoint(ins[i] / ENDS)) {
                    want(ins[i] / ENDS, lieOnWay(i), 1 << i);
                }
            }
            if (behind != NONE && layout.isPoint(behind / ENDS) && behind % ENDS != 0) {
                want(behind / ENDS, behind % ENDS - 1, FOR_OVERLAP);
            }
            for (int i = 0; i < size; i++) {
                if (layout.isPoint(ins[i] / ENDS)) {
                    wantFlank(i, size);
                }
            }
        }

        private int lieOnWay(int i) {
            return Math.max(ins[i] % ENDS, outs[i] % ENDS) - 1;
        }

        private void wantFlank(int i, int size) {
            int otherLeg = ins[i] / ENDS * ENDS + 2 - lieOnWay(i);
            int flank = layout.joints[otherLeg];
            if (flank == NONE || flank % ENDS == 0 || !layout.isPoint(flank / ENDS)
                    || isInWay(flank / ENDS, size)) {
                return;
            }
            want(flank / ENDS, 2 - flank % ENDS, 1 << i);
        }

        private void want(int point, int lie, int reason) {
            for (int i = 0; i < wantedCount; i++) {
                if (wanted[i] / 2 == point) {
                    torn = torn || wanted[i] % 2 != lie;
                    reasons[i] |= reason;
                    return;
                }
            }
            if (wantedCount < MOST_NEEDS) {
                wanted[wantedCount] = point * 2 + lie;
                reasons[wantedCount] = reason;
                wantedCount++;
            }
        }

        private void keepNeeds() {
            needCounts[count] = wantedCount;
            for (int i = 0; i < wantedCount; i++) {
                needs[count * MOST_NEEDS + i] = wanted[i];
            }
        }

        private void keepHeld(int size) {
            int bits = 0;
            int why = FOR_OVERLAP;
            for (int given = size; given >= 0; given--) {
                if (given < size) {
                    bits |= 1 << (ins[given] / ENDS);
                    why |= 1 << given;
                }
                held[count * STEPS + given] = bits;
                boundToZero[count * STEPS + given] = wantedFor(0, why);
                boundToOne[count * STEPS + given] = wantedFor(1, why);
            }
        }

        private int wantedFor(int lie, int why) {
            int bits = 0;
            for (int i = 0; i < wantedCount; i++) {
                if (wanted[i] % 2 == lie && (reasons[i] & why) != 0) {
                    bits |= 1 << (wanted[i] / 2);
                }
            }
            return bits;
        }
    }

    /** What the yard reports, what of it is forced, and what is used. */
    private static final class Reports {
        private static final int AS_IT_IS = -1, MISSING = -2, CONTRADICTORY = 3;
        private static final int OLDEST = 2;

        private final Layout layout;
        private final int[] sectionForce = new int[MOST_SECTIONS];
        private final int[] pointForce = new int[MOST_SECTIONS];
        private final int[] sectionReport = new int[MOST_SECTIONS];
        private final int[] pointReport = new int[MOST_SECTIONS];
        private final int[] sectionAge = new int[MOST_SECTIONS];
        private final int[] pointAge = new int[MOST_SECTIONS];
        int occupied = -1;
        int liesToZero = 0;
        int liesToOne = 0;

        Reports(Layout layout) {
            this.layout = layout;
        }

        void freeAll() {
            for (int s = 0; s < MOST_SECTIONS; s++) {
                sectionForce[s] = AS_IT_IS;
                pointForce[s] = AS_IT_IS;
            }
        }

        /** No report has come; one that contradicts itself stands for none, since both free nothing. */
        void forget() {
            for (int s = 0; s < MOST_SECTIONS; s++) {
                sectionReport[s] = CONTRADICTORY;
                pointReport[s] = CONTRADICTORY;
                sectionAge[s] = 0;
                pointAge[s] = 0;
            }
            occupied = -1;
            liesToZero = 0;
            liesToOne = 0;
        }

        void forceTo(int kind, int section, int v) {
            if (kind == 0) {
                sectionForce[section] = v;
            } else {
                pointForce[section] = v;
            }
        }

        int lieUsed(int point) {
            if (bitOf(liesToZero, point) == 1) {
                return 0;
            }
            return bitOf(liesToOne, point) == 1 ? 1 : 2;
        }

        void come(int trainsOn, int[] lies) {
            for (int s = 0; s < layout.sections; s++) {
                takeReport(sectionReport, sectionAge, s, sectionForce[s], bitOf(trainsOn, s));
                occupied = withBit(occupied, s, !isUsed(sectionReport, sectionAge, s, 0));
                if (layout.isPoint(s)) {
                    takeReport(pointReport, pointAge, s, pointForce[s], lies[s]);
                    liesToZero = withBit(liesToZero, s, isUsed(pointReport, pointAge, s, 0));
                    liesToOne = withBit(liesToOne, s, isUsed(pointReport, pointAge, s, 1));
                }
            }
        }

        private static void takeReport(int[] latest, int[] ages, int s, int forced, int actual) {
            if (forced == MISSING) {
                ages[s]++;
                return;
            }
            latest[s] = forced == AS_IT_IS ? actual : forced;
            ages[s] = 0;
        }

        private static boolean isUsed(int[] latest, int[] ages, int s, int number) {
            return latest[s] == number && ages[s] <= OLDEST;
        }
    }

    /** One of the three channels: what it holds of each route, its commands, and its rows. */
    private static final class Channel {
        private static final int STILL = 1, WILD = 2, BLIND = 3, DEAF = 4, LATE = 5;
        private static final int ROW_SIGNALS = 0, ROW_COMMANDS = 1, ROW_ROUTES = 2;
        private static final int CALLED_MOST = 12, WAITS = 10, RELEASES = 20, OVERTIMES = 4;

        private final Ways ways;
        private final Reports reports;
        private final int[] phases = new int[MOST_ROUTES];
        private final int[] counts = new int[MOST_ROUTES];
        private final int[] given = new int[MOST_ROUTES];
        private final int[] seen = new int[MOST_ROUTES];
        private final boolean[] barred = new boolean[MOST_ROUTES];
        private final boolean[] shown = new boolean[MOST_ROUTES];
        // A bit for each route that came into use in this tick.
        private long came = 0L;
        private int commands = 0;
        private int[] row = new int[ROW_ROUTES + MOST_ROUTES];
        private int[] rowBefore = new int[ROW_ROUTES + MOST_ROUTES];
        int flaw = 0;
        boolean voting = true;

        Channel(Ways ways, Reports reports) {
            this.ways = ways;
            this.reports = reports;
        }

        /** Whole and in the vote, with no route, and rows as ahead of a first cycle. */
        void begin(int commanded) {
            flaw = 0;
            voting = true;
            commands = commanded;
            for (int r = 0; r < MOST_ROUTES; r++) {
                endRoute(r);
            }
            came = 0L;
            keepFirstRow();
        }

        /** The row ahead of a first cycle; that cycle makes it the row before. */
        void keepFirstRow() {
            writeRow(row, 0);
        }

        void become(Channel other) {
            System.arraycopy(other.phases, 0, phases, 0, MOST_ROUTES);
            System.arraycopy(other.counts, 0, counts, 0, MOST_ROUTES);
            System.arraycopy(other.given, 0, given, 0, MOST_ROUTES);
            System.arraycopy(other.seen, 0, seen, 0, MOST_ROUTES);
            System.arraycopy(other.row, 0, row, 0, row.length);
            for (int r = 0; r < MOST_ROUTES; r++) {
                barred[r] = other.barred[r];
                shown[r] = other.shown[r];
            }
            commands = other.commands;
        }

        int phaseOf(int route) {
            return phases[route];
        }

        boolean cameIntoUse(int route) {
            return (came >>> route & 1L) == 1L;
        }

        int tell(int route, int what) {
            switch (what) {
                case 0:
                    return phases[route];
                case 1:
                    return counts[route];
                case 2:
                    return barred[route] ? 1 : 0;
                case 3:
                    return shown[route] ? 1 : 0;
                case 4:
                    return given[route];
                default:
                    return seen[route];
            }
        }

        /** All that is told of a route, in one number. */
        int packed(int r) {
            if (phases[r] == 0) {
                return 0;
            }
            int flags = (barred[r] ? 1 : 0) + (shown[r] ? 2 : 0);
            return phases[r] | counts[r] << 3 | flags << 8 | given[r] << 10 | seen[r] << 14;
        }

        /** A route comes back from the disk, which held it so. */
        void restore(int r, int held) {
            int phase = held & 7;
            if (phase == 0) {
                return;
            }
            shown[r] = true;
            if (phase == IN_USE || phase == FORCED_FREE || phase == OVERTIME) {
                phases[r] = phase;
                counts[r] = phase == FORCED_FREE ? RELEASES : phase == OVERTIME ? OVERTIMES : 0;
                given[r] = Math.min(held >>> 10 & 15, ways.sizes[r]);
                seen[r] = held >>> 14 & 255;
            } else {
                phases[r] = READY;
                barred[r] = true;
            }
        }

        int heldBy(int r) {
            return phases[r] == 0 ? 0 : ways.heldSections(r, given[r]) | ways.heldOverlap(r);
        }

        int heldAsSections(int r) {
            return phases[r] == 0 ? 0 : ways.heldSections(r, given[r]);
        }

        int boundBy(int lie, int r) {
            return phases[r] == 0 ? 0 : ways.boundTo(lie, r, given[r]);
        }

        int holderOf(int section) {
            for (int r = 0; r < ways.count; r++) {
                if (bitOf(heldBy(r), section) == 1) {
                    return r;
                }
            }
            return NONE;
        }

        private int occupied() {
            return flaw == BLIND ? 0 : reports.occupied;
        }

        private boolean isFirstOccupied(int r) {
            return (ways.firstSection(r) & occupied()) != 0;
        }

        private boolean isWhole(int r) {
            return (ways.ground(r) & occupied()) == 0 && ways.wrongPoints(r, reports) == 0;
        }

        private void endRoute(int r) {
            phases[r] = 0;
            counts[r] = 0;
            given[r] = 0;
            seen[r] = 0;
            barred[r] = false;
            shown[r] = false;
        }

        private void enterPhase(int r, int phase, int count) {
            phases[r] = phase;
            counts[r] = count;
        }

        // ---- orders

        boolean obeys(int order, int a, int b) {
            if (flaw == STILL || flaw == DEAF) {
                return false;
            }
            switch (order) {
                case ORDER_SET:
                    return obeysSet(a);
                case ORDER_CANCEL:
                    return obeysCancel(a);
                case ORDER_RELEASE:
                    return obeysRelease(a);
                default:
                    return obeysMove(a, b);
            }
        }

        private boolean obeysSet(int r) {
            if (phases[r] == READY && barred[r]) {
                barred[r] = false;
                return true;
            }
            if (phases[r] != 0 || (ways.ground(r) & occupied()) != 0 || isInTheWay(r) || !canHavePoints(r)) {
                return false;
            }
            endRoute(r);
            enterPhase(r, CALLED, 0);
            return true;
        }

        /** Whether another route holds what this one wants to hold. */
        private boolean isInTheWay(int r) {
            int mine = ways.heldSections(r, 0);
            for (int q = 0; q < ways.count; q++) {
                if (phases[q] == 0 || q == r) {
                    continue;
                }
                if ((heldAsSections(q) & ways.ground(r)) != 0) {
                    return true;
                }
                if (ways.lasts[q] != ways.signals[r] && (ways.heldOverlap(q) & mine) != 0) {
                    return true;
                }
            }
            return false;
        }

        private boolean canHavePoints(int r) {
            int toMove = ways.wrongPoints(r, reports);
            if ((toMove & occupied()) != 0) {
                return false;
            }
            for (int q = 0; q < ways.count; q++) {
                if (phases[q] == 0 || q == r) {
                    continue;
                }
                int zero = boundBy(0, q);
                int one = boundBy(1, q);
                if ((zero & ways.boundTo(1, r, 0)) != 0 || (one & ways.boundTo(0, r, 0)) != 0
                        || (toMove & (heldBy(q) | zero | one)) != 0) {
                    return false;
                }
            }
            return true;
        }

        private boolean obeysCancel(int r) {
            if (phases[r] < CALLED || phases[r] > CLEAR) {
                return false;
            }
            if (shown[r]) {
                enterPhase(r, WAITING, WAITS);
            } else {
                endRoute(r);
            }
            return true;
        }

        private boolean obeysRelease(int r) {
            if (phases[r] == 0 || phases[r] == FORCED_FREE) {
                return false;
            }
            enterPhase(r, FORCED_FREE, RELEASES);
            return true;
        }

        private boolean obeysMove(int point, int lie) {
            if (bitOf(occupied(), point) == 1) {
                return false;
            }
            for (int r = 0; r < ways.count; r++) {
                if (bitOf(heldBy(r) | boundBy(0, r) | boundBy(1, r), point) == 1) {
                    return false;
                }
            }
            commands = withBit(commands, point, lie == 1);
            return true;
        }

        // ---- the cycle

        void forgetTick() {
            came = 0L;
        }

        void doCycle() {
            if (flaw == STILL) {
                return;
            }
            for (int r = 0; r < ways.count; r++) {
                if (phases[r] != 0) {
                    stepRoute(r);
                }
            }
            int[] oldest = rowBefore;
            rowBefore = row;
            row = oldest;
            writeRow(row, flaw == WILD ? -1 : clearSignals());
        }

        private void stepRoute(int r) {
            // Who comes into use is dealt with as in use in this same cycle.
            if ((phases[r] == CLEAR || phases[r] == WAITING) && isFirstOccupied(r)) {
                enterPhase(r, IN_USE, 0);
                came |= 1L << r;
            }
            switch (phases[r]) {
                case CALLED:
                    stepCalled(r);
                    break;
                case READY:
                    if (!barred[r] && isWhole(r)) {
                        enterPhase(r, CLEAR, 0);
                        shown[r] = true;
                    }
                    break;
                case CLEAR:
                    if (!isWhole(r)) {
                        enterPhase(r, READY, 0);
                        barred[r] = true;
                    }
                    break;
                case IN_USE:
                    stepInUse(r);
                    break;
                case WAITING:
                case FORCED_FREE:
                case OVERTIME:
                    countDown(r);
                    break;
                default:
                    break;
            }
        }

        private void stepCalled(int r) {
            int toMove = ways.wrongPoints(r, reports);
            if (toMove == 0) {
                enterPhase(r, READY, 0);
                return;
            }
            counts[r]++;
            if (counts[r] >= CALLED_MOST) {
                endRoute(r);
                return;
            }
            int free = toMove & ~occupied();
            commands = (commands | free & ways.boundTo(1, r, 0)) & ~(free & ways.boundTo(0, r, 0));
        }

        private void countDown(int r) {
            counts[r]--;
            if (counts[r] <= 0) {
                endRoute(r);
            }
        }

        private void stepInUse(int r) {
            int size = ways.sizes[r];
            int on = occupied();
            for (int k = given[r]; k < size; k++) {
                if (bitOf(on, ways.sections[r * MOST_IN_WAY + k]) == 1) {
                    seen[r] |= 1 << k;
                }
            }
            for (int k = given[r]; k < size && mayGiveBack(r, k, on); k++) {
                given[r] = k + 1;
            }
            if (given[r] < size) {
                return;
            }
            if (ways.overlaps[r] == NONE) {
                endRoute(r);
            } else {
                enterPhase(r, OVERTIME, OVERTIMES);
            }
        }

        /** The last section is given back with the train still on it: the train has then left all others. */
        private boolean mayGiveBack(int r, int k, int on) {
            if (bitOf(seen[r], k) == 0) {
                return false;
            }
            if (k == ways.sizes[r] - 1) {
                return true;
            }
            return bitOf(on, ways.sections[r * MOST_IN_WAY + k]) == 0 && bitOf(seen[r], k + 1) == 1;
        }

        // ---- rows

        private int clearSignals() {
            int bits = 0;
            for (int r = 0; r < ways.count; r++) {
                if (phases[r] == CLEAR) {
                    bits |= 1 << ways.signals[r];
                }
            }
            return bits;
        }

        private void writeRow(int[] into, int signals) {
            into[ROW_SIGNALS] = signals & ((1 << ways.layout.signals) - 1);
            into[ROW_COMMANDS] = commands;
            for (int r = 0; r < ways.count; r++) {
                into[ROW_ROUTES + r] = packed(r);
            }
        }

        private int[] rowForVote() {
            return flaw == LATE ? rowBefore : row;
        }

        boolean agrees(Channel other) {
            int[] mine = rowForVote();
            int[] its = other.rowForVote();
            for (int i = 0; i < ROW_ROUTES + ways.count; i++) {
                if (mine[i] != its[i]) {
                    return false;
                }
            }
            return true;
        }

        int votedSignals() {
            return rowForVote()[ROW_SIGNALS];
        }

        int votedCommands() {
            return rowForVote()[ROW_COMMANDS];
        }
    }

    /** The three channels, what they vote, and the disk that keeps the routes. */
    private static final class Vote {
        private final Ways ways;
        private final Reports reports;
        final Channel[] channels = new Channel[CHANNELS];
        private final int[] disk = new int[MOST_ROUTES];
        private int onDisk = 0;
        boolean down = false;
        boolean powerless = false;
        int proceeding = 0;
        int commands = 0;
        int releases = 0;

        Vote(Ways ways, Reports reports) {
            this.ways = ways;
            this.reports = reports;
            for (int c = 0; c < CHANNELS; c++) {
                channels[c] = new Channel(ways, reports);
            }
        }

        void begin() {
            beginChannels(0);
            powerless = false;
            releases = 0;
            onDisk = 0;
            for (int r = 0; r < MOST_ROUTES; r++) {
                disk[r] = 0;
            }
        }

        private void beginChannels(int commanded) {
            down = false;
            proceeding = 0;
            commands = commanded;
            for (int c = 0; c < CHANNELS; c++) {
                channels[c].begin(commanded);
            }
        }

        /** The first channel in the vote; channel 0, if there is none. */
        Channel house() {
            for (int c = 0; c < CHANNELS; c++) {
                if (channels[c].voting) {
                    return channels[c];
                }
            }
            return channels[0];
        }

        private int voters() {
            int n = 0;
            for (int c = 0; c < CHANNELS; c++) {
                n += channels[c].voting ? 1 : 0;
            }
            return n;
        }

        boolean allVote() {
            return voters() == CHANNELS;
        }

        private void goDown() {
            down = true;
            proceeding = 0;
            for (int c = 0; c < CHANNELS; c++) {
                channels[c].voting = false;
            }
        }

        int order(int kind, int a, int b) {
            if (down || powerless) {
                return 0;
            }
            int took = 0;
            int yes = 0;
            for (int c = 0; c < CHANNELS; c++) {
                if (channels[c].voting && channels[c].obeys(kind, a, b)) {
                    took |= 1 << c;
                    yes++;
                }
            }
            int all = voters();
            if (yes * 2 == all) {
                goDown();
                return 0;
            }
            int answer = yes * 2 > all ? 1 : 0;
            for (int c = 0; c < CHANNELS; c++) {
                if (bitOf(took, c) != answer) {
                    channels[c].voting = false;
                }
            }
            if (kind == ORDER_RELEASE) {
                releases += answer;
            }
            return answer;
        }

        void passTick() {
            for (int c = 0; c < CHANNELS; c++) {
                channels[c].forgetTick();
            }
            if (down || powerless) {
                return;
            }
            for (int c = 0; c < CHANNELS; c++) {
                if (channels[c].voting) {
                    channels[c].doCycle();
                }
            }
            voteRows();
        }

        /** Whoever agrees with no other one is cut off; if nobody agrees with another one, the house is down. */
        private void voteRows() {
            int agreeing = 0;
            for (int c = 0; c < CHANNELS; c++) {
                for (int d = c + 1; d < CHANNELS; d++) {
                    if (channels[c].voting && channels[d].voting && channels[c].agrees(channels[d])) {
                        agreeing |= 1 << c | 1 << d;
                    }
                }
            }
            if (agreeing == 0) {
                goDown();
                return;
            }
            for (int c = 0; c < CHANNELS; c++) {
                channels[c].voting = bitOf(agreeing, c) == 1;
            }
            proceeding = house().votedSignals();
            commands = house().votedCommands();
        }

        void resetByHand(int pointsAtOne) {
            if (down) {
                beginChannels(pointsAtOne);
                return;
            }
            Channel first = house();
            for (int c = 0; c < CHANNELS; c++) {
                if (!channels[c].voting) {
                    channels[c].become(first);
                }
                channels[c].flaw = 0;
                channels[c].voting = true;
            }
        }

        int writeDisk() {
            onDisk = 0;
            Channel first = house();
            for (int r = 0; r < ways.count; r++) {
                disk[r] = first.packed(r);
                onDisk += first.phaseOf(r) == 0 ? 0 : 1;
            }
            return onDisk;
        }

        void losePower() {
            powerless = true;
            proceeding = 0;
        }

        int startFromDisk(int pointsAtOne) {
            powerless = false;
            beginChannels(pointsAtOne);
            for (int c = 0; c < CHANNELS; c++) {
                for (int r = 0; r < ways.count; r++) {
                    channels[c].restore(r, disk[r]);
                }
                channels[c].keepFirstRow();
            }
            return onDisk;
        }

        // ---- the audit

        int firstWrong() {
            Channel first = house();
            if (isShownWithoutRoute(first)) {
                return 1;
            }
            if (isClearThoughUnsafe(first)) {
                return 2;
            }
            int held = 0;
            boolean twice = false;
            int zero = 0;
            int one = 0;
            for (int r = 0; r < ways.count; r++) {
                twice = twice || (held & first.heldAsSections(r)) != 0;
                held |= first.heldAsSections(r);
                zero |= first.boundBy(0, r);
                one |= first.boundBy(1, r);
            }
            if (twice) {
                return 3;
            }
            return (zero & one) != 0 ? 4 : 0;
        }

        private boolean isShownWithoutRoute(Channel first) {
            int without = proceeding;
            for (int r = 0; r < ways.count; r++) {
                if (first.phaseOf(r) == CLEAR) {
                    without = withBit(without, ways.signals[r], false);
                }
            }
            return without != 0;
        }

        private boolean isClearThoughUnsafe(Channel first) {
            for (int r = 0; r < ways.count; r++) {
                if (first.phaseOf(r) == CLEAR && bitOf(proceeding, ways.signals[r]) == 1
                        && ((ways.ground(r) & reports.occupied) != 0 || ways.wrongPoints(r, reports) != 0)) {
                    return true;
                }
            }
            return false;
        }
    }

    /** A train; its way is the sections on which it is, from the rear to the front. */
    private static final class Train {
        // 31 sections of length 1 under it, 9 more in a move.
        private static final int MOST_UNDER = 48;

        int length = 0;
        int greatest = 0;
        int brake = 0;
        int number = 0;
        int speed = 0;
        int place = 0;
        int exit = 0;
        int passed = 0;
        boolean standing = false;
        boolean outside = false;
        boolean gone = false;
        final int[] way = new int[MOST_UNDER];
        int under = 0;

        void begin(int section, int leaving) {
            speed = 0;
            place = 0;
            exit = leaving;
            passed = 0;
            standing = false;
            outside = false;
            gone = false;
            under = 0;
            addSection(section);
        }

        void addSection(int section) {
            if (under < MOST_UNDER) {
                way[under] = section;
                under++;
            }
        }

        int on() {
            int bits = 0;
            for (int i = 0; i < under; i++) {
                bits |= 1 << way[i];
            }
            return bits;
        }

        int tell(int what) {
            switch (what) {
                case 0:
                    return outside || under == 0 ? NONE : way[under - 1];
                case 1:
                    return place;
                case 2:
                    return speed;
                case 3:
                    return gone ? 1 : 0;
                case 4:
                    return number;
                case 5:
                    return passed;
                default:
                    return Integer.bitCount(on());
            }
        }

        /** Leaves the sections that are behind the rear; one that has left all is gone. */
        void trim(Layout layout) {
            int rest = length - place;
            int first = outside ? under : under - 1;
            while (first > 0 && rest > 0) {
                first--;
                rest -= layout.lengths[way[first]];
            }
            if (first > 0) {
                System.arraycopy(way, first, way, 0, under - first);
                under -= first;
            }
            if (under == 0) {
                gone = true;
                speed = 0;
            }
        }
    }

    /** The points as they lie, and the trains as they go. */
    private static final class Yard {
        private static final int MOST_PRESENT = 8, MOST_TRAINS = 200;
        private static final int NOWHERE = 2, GOING = 3;
        // More steps than there are ends: who goes so many goes round and round.
        private static final int MOST_STEPS = MOST_SECTIONS * ENDS + 8;
        private static final int MOST_PARTS = Train.MOST_UNDER + MOST_STEPS;

        private final Layout layout;
        final int[] lies = new int[MOST_SECTIONS];
        private final int[] goals = new int[MOST_SECTIONS];
        private final int[] left = new int[MOST_SECTIONS];
        int blocked = 0;
        private final Train[] trains = new Train[MOST_TRAINS];
        int came = 0;
        int present = 0;
        int swept = 0;
        // The sections from a train's rear on: where each ends, seen from the front, and its limit.
        private final int[] partEnds = new int[MOST_PARTS];
        private final int[] partLimits = new int[MOST_PARTS];
        private int parts = 0;
        private int leaveNow = NONE;

        Yard(Layout layout) {
            this.layout = layout;
        }

        void begin() {
            for (int s = 0; s < MOST_SECTIONS; s++) {
                lies[s] = 0;
                goals[s] = 0;
                left[s] = 0;
            }
            blocked = 0;
            came = 0;
            present = 0;
            swept = 0;
        }

        // ---- points

        int liesToOne() {
            int bits = 0;
            for (int s = 0; s < layout.sections; s++) {
                bits = withBit(bits, s, layout.isPoint(s) && lies[s] == 1);
            }
            return bits;
        }

        void pointsGoOn(int commands) {
            for (int s = 0; s < layout.sections; s++) {
                if (layout.isPoint(s)) {
                    pointGoesOn(s, bitOf(commands, s));
                }
            }
        }

        private void pointGoesOn(int s, int command) {
            if (goals[s] != command) {
                goals[s] = command;
                left[s] = GOING;
                lies[s] = NOWHERE;
                return;
            }
            if (lies[s] != NOWHERE) {
                return;
            }
            left[s] = Math.max(left[s] - 1, 0);
            if (left[s] == 0 && bitOf(blocked, s) == 0) {
                lies[s] = goals[s];
            }
        }

        // ---- trains

        boolean hasRoom() {
            return came < MOST_TRAINS && present < MOST_PRESENT;
        }

        Train trainOf(int train) {
            return train >= 0 && train < came ? trains[train] : null;
        }

        /** The train, if it is not gone. */
        private Train presentTrain(int train) {
            Train t = trainOf(train);
            return t == null || t.gone ? null : t;
        }

        int bringIn(int inward, int length, int greatest, int brake, int number) {
            Train t = trains[came];
            if (t == null) {
                t = new Train();
                trains[came] = t;
            }
            t.length = length;
            t.greatest = greatest;
            t.brake = brake;
            t.number = number;
            t.begin(inward / ENDS, layout.wayOut(inward, 0));
            present++;
            came++;
            return came - 1;
        }

        int firstOn(int section) {
            for (int i = 0; i < came; i++) {
                Train t = presentTrain(i);
                if (t != null && bitOf(t.on(), section) == 1) {
                    return i;
                }
            }
            return NONE;
        }

        boolean twoOnOne() {
            int on = 0;
            for (int i = 0; i < came; i++) {
                Train t = presentTrain(i);
                if (t != null) {
                    if ((on & t.on()) != 0) {
                        return true;
                    }
                    on |= t.on();
                }
            }
            return false;
        }

        boolean isMoving() {
            for (int i = 0; i < came; i++) {
                Train t = presentTrain(i);
                if (t != null && t.speed > 0) {
                    return true;
                }
            }
            return false;
        }

        int leaveOf(Train t, int proceeding) {
            survey(t, proceeding);
            return leaveNow;
        }

        void trainsMove(int proceeding) {
            swept = 0;
            for (int i = 0; i < came; i++) {
                Train t = presentTrain(i);
                if (t != null) {
                    moveTrain(t, proceeding);
                }
            }
        }

        private void moveTrain(Train t, int proceeding) {
            swept |= t.on();
            survey(t, proceeding);
            t.speed = nextSpeed(t);
            goOn(t, proceeding);
            t.trim(layout);
            if (t.gone) {
                present--;
            }
        }

        private int nextSpeed(Train t) {
            int least = Math.max(t.speed - t.brake, 0);
            if (t.standing) {
                return least;
            }
            for (int v = Math.min(t.speed + 1, t.greatest); v > least; v--) {
                if (isSafe(t, v)) {
                    return v;
                }
            }
            return least;
        }

        private boolean isSafe(Train t, int v) {
            int far = 0;
            // A speed is 9 at most and a brake at least 1, so 9 moves are enough to stand.
            for (int n = 0, u = v; n < 9 && u > 0; n++, u -= t.brake) {
                if (!keepsLimits(u, far - t.length, far + u)) {
                    return false;
                }
                far += u;
            }
            return leaveNow == NONE || far <= leaveNow;
        }

        private boolean keepsLimits(int v, int from, int to) {
            // The front has come into the first part, so every move ends behind its beginning.
            int begins = from;
            for (int i = 0; i < parts && begins < to; i++) {
                if (partEnds[i] > from && partLimits[i] < v) {
                    return false;
                }
                begins = partEnds[i];
            }
            return true;
        }

        /** Finds the sections from the rear on, and how far the leave goes. */
        private void survey(Train t, int proceeding) {
            int at = -t.place;
            int behind = t.outside ? t.under : t.under - 1;
            for (int i = 0; i < behind; i++) {
                at -= layout.lengths[t.way[i]];
            }
            parts = 0;
            for (int i = 0; i < t.under; i++) {
                at = addPart(t.way[i], at);
            }
            leaveNow = t.outside ? NONE : surveyAhead(t.exit, at, proceeding);
        }

        private int surveyAhead(int exit, int from, int proceeding) {
            int leaving = exit;
            int at = from;
            for (int n = 0; n < MOST_STEPS; n++) {
                if (isStopped(leaving, proceeding)) {
                    return at;
                }
                int into = layout.joints[leaving];
                if (into == NONE) {
                    return NONE;
                }
                int out = layout.wayOut(into, lies[into / ENDS]);
                if (out == NONE) {
                    return at;
                }
                at = addPart(into / ENDS, at);
                leaving = out;
            }
            return NONE;
        }

        private int addPart(int section, int from) {
            int to = from + layout.lengths[section];
            if (parts < MOST_PARTS) {
                partEnds[parts] = to;
                partLimits[parts] = layout.limits[section];
                parts++;
            }
            return to;
        }

        private boolean isStopped(int leaving, int proceeding) {
            int signal = layout.signalsAt[leaving];
            return signal != NONE && bitOf(proceeding, signal) == 0;
        }

        private void goOn(Train t, int proceeding) {
            int rest = t.speed;
            // Each section is at least 1 long, and the front may stand at an end at first.
            for (int n = 0; n < 20 && rest > 0; n++) {
                int room = t.outside || t.under == 0 ? rest : layout.lengths[t.way[t.under - 1]] - t.place;
                int far = Math.min(room, rest);
                t.place += far;
                rest -= far;
                if (rest > 0 && !crosses(t, proceeding)) {
                    t.speed = 0;
                    rest = 0;
                }
            }
        }

        /** The front goes beyond the end at which it is; false: a point does not let it in. */
        private boolean crosses(Train t, int proceeding) {
            int into = layout.joints[t.exit];
            if (into == NONE) {
                t.outside = true;
                t.place = 0;
                return true;
            }
            int out = layout.wayOut(into, lies[into / ENDS]);
            if (out == NONE) {
                return false;
            }
            if (isStopped(t.exit, proceeding)) {
                t.passed++;
            }
            t.addSection(into / ENDS);
            swept |= 1 << (into / ENDS);
            t.place = 0;
            t.exit = out;
            return true;
        }
    }

    /** Stations, runs with their stops, and the seats that are held on them. */
    private static final class Timetable {
        static final int MOST_RUNS = 12, MOST_STOPS = 8, MOST_SEATS = 20;
        static final int MOST_HELD = 60, MOST_HOLDS = 400;
        static final int COUNTS = 0, PAID = 1, GONE = 2;

        final int[] changes = new int[STATIONS];
        final int[] zones = new int[STATIONS];
        int runs = 0;
        final int[] seats = new int[MOST_RUNS];
        final int[] stops = new int[MOST_RUNS];
        final int[] stations = new int[MOST_RUNS * MOST_STOPS];
        final int[] arrivals = new int[MOST_RUNS * MOST_STOPS];
        final int[] departures = new int[MOST_RUNS * MOST_STOPS];
        int holds = 0;
        int held = 0;
        final int[] holdRuns = new int[MOST_HOLDS];
        final int[] holdFroms = new int[MOST_HOLDS];
        final int[] holdTos = new int[MOST_HOLDS];
        final int[] holdUntils = new int[MOST_HOLDS];
        final int[] holdSeats = new int[MOST_HOLDS];
        final int[] holdStates = new int[MOST_HOLDS];

        Timetable() {
            begin();
        }

        void begin() {
            for (int i = 0; i < STATIONS; i++) {
                changes[i] = 5;
                zones[i] = 0;
            }
            runs = 0;
            holds = 0;
            held = 0;
        }

        boolean hasRun(int run) {
            return run >= 0 && run < runs;
        }

        boolean hasStop(int run, int stop) {
            return hasRun(run) && stop >= 0 && stop < stops[run];
        }

        int addRun(int seatCount) {
            seats[runs] = seatCount;
            stops[runs] = 0;
            runs++;
            return runs - 1;
        }

        /** The departure of a run's last stop; 0, if it has none. */
        int lastDeparture(int run) {
            return stops[run] == 0 ? 0 : departures[run * MOST_STOPS + stops[run] - 1];
        }

        int addStop(int run, int station, int arrival, int departure) {
            int at = run * MOST_STOPS + stops[run];
            stations[at] = station;
            arrivals[at] = arrival;
            departures[at] = departure;
            stops[run]++;
            return stops[run];
        }

        int legFare(int run, int from, int to) {
            int zone = zones[stations[run * MOST_STOPS + from]];
            int other = zones[stations[run * MOST_STOPS + to]];
            return 100 + 30 * Math.abs(zone - other);
        }

        boolean hasHold(int hold) {
            return hold >= 0 && hold < holds;
        }

        int firstSeat(int run, int from, int to) {
            int taken = 0;
            for (int h = 0; h < holds; h++) {
                if (holdStates[h] != GONE && holdRuns[h] == run && holdFroms[h] < to && holdTos[h] > from) {
                    taken |= 1 << holdSeats[h];
                }
            }
            for (int seat = 0; seat < seats[run]; seat++) {
                if (bitOf(taken, seat) == 0) {
                    return seat;
                }
            }
            return NONE;
        }

        int addHold(int run, int from, int to, int until, int seat) {
            holdRuns[holds] = run;
            holdFroms[holds] = from;
            holdTos[holds] = to;
            holdUntils[holds] = until;
            holdSeats[holds] = seat;
            holdStates[holds] = COUNTS;
            holds++;
            held++;
            return holds - 1;
        }

        void endHold(int hold) {
            holdStates[hold] = GONE;
            held--;
        }

        void endHolds(int time) {
            for (int h = 0; h < holds && held > 0; h++) {
                if (holdStates[h] == COUNTS && holdUntils[h] <= time) {
                    endHold(h);
                }
            }
        }
    }

    /**
     * The search for journeys. Where a journey's last leg ends tells its arrival, so of all journeys with
     * as many legs that end at one stop of one run only the cheapest can be an option, and of those the first.
     * A journey is written as a code: 10 bits a leg, which compare as the legs do.
     */
    private static final class Journeys {
        private static final int MOST_LEGS = 4, LEG_BITS = 10;
        private static final int PLACES = Timetable.MOST_RUNS * Timetable.MOST_STOPS;
        // An option for each number of legs and each fare: 4 times 37, since zones differ by 36 at most in all.
        private static final int MOST_OPTIONS = 148;

        private final Timetable table;
        int options = 0;
        final int[] arrivals = new int[MOST_OPTIONS];
        final int[] legCounts = new int[MOST_OPTIONS];
        final int[] fares = new int[MOST_OPTIONS];
        private final long[] codes = new long[MOST_OPTIONS];
        // The cheapest journey that ends at each stop, with as many legs as now, and with one less; fare 0: none.
        private int[] fareTo = new int[PLACES];
        private long[] codeTo = new long[PLACES];
        private int[] fareBefore = new int[PLACES];
        private long[] codeBefore = new long[PLACES];

        Journeys(Timetable table) {
            this.table = table;
        }

        boolean hasOption(int k) {
            return k >= 0 && k < options;
        }

        int tellLeg(int k, int j, int what) {
            int shift = (legCounts[k] - 1 - j) * LEG_BITS;
            int code = (int) (codes[k] >>> shift) & 1023;
            return what == 0 ? code >> 6 : what == 1 ? code >> 3 & 7 : code & 7;
        }

        int findAll(int from, int to, int time) {
            options = 0;
            for (int legs = 1; legs <= MOST_LEGS; legs++) {
                beginLevel();
                for (int r = 0; r < table.runs; r++) {
                    for (int i = 0; i < table.stops[r] - 1; i++) {
                        if (legs == 1) {
                            beginAt(r, i, from, time);
                        } else {
                            changeInto(r, i);
                        }
                    }
                }
                harvest(to, legs);
            }
            return options;
        }

        private void beginLevel() {
            int[] oldFares = fareBefore;
            long[] oldCodes = codeBefore;
            fareBefore = fareTo;
            codeBefore = codeTo;
            fareTo = oldFares;
            codeTo = oldCodes;
            for (int i = 0; i < PLACES; i++) {
                fareTo[i] = 0;
            }
        }

        private void beginAt(int r, int i, int from, int time) {
            int at = r * Timetable.MOST_STOPS + i;
            if (table.stations[at] == from && table.departures[at] >= time) {
                ride(r, i, 0, 0L);
            }
        }

        /** Goes on by a run from a stop of it, behind the cheapest journey that comes there in time. */
        private void changeInto(int r, int i) {
            int at = r * Timetable.MOST_STOPS + i;
            int station = table.stations[at];
            int latest = table.departures[at] - table.changes[station];
            int fare = 0;
            long code = 0L;
            for (int q = 0; q < table.runs; q++) {
                if (q == r) {
                    continue;
                }
                for (int j = 1; j < table.stops[q]; j++) {
                    int p = q * Timetable.MOST_STOPS + j;
                    if (fareBefore[p] != 0 && table.stations[p] == station && table.arrivals[p] <= latest
                            && isBetter(fareBefore[p], codeBefore[p], fare, code)) {
                        fare = fareBefore[p];
                        code = codeBefore[p];
                    }
                }
            }
            if (fare != 0) {
                ride(r, i, fare, code);
            }
        }

        private static boolean isBetter(int fare, long code, int thanFare, long thanCode) {
            return thanFare == 0 || fare < thanFare || (fare == thanFare && code < thanCode);
        }

        private void ride(int r, int i, int fare, long code) {
            for (int j = i + 1; j < table.stops[r]; j++) {
                int p = r * Timetable.MOST_STOPS + j;
                int sum = fare + table.legFare(r, i, j);
                long longer = code << LEG_BITS | (long) (r << 6 | i << 3 | j);
                if (isBetter(sum, longer, fareTo[p], codeTo[p])) {
                    fareTo[p] = sum;
                    codeTo[p] = longer;
                }
            }
        }

        private void harvest(int to, int legs) {
            for (int r = 0; r < table.runs; r++) {
                for (int j = 1; j < table.stops[r]; j++) {
                    int p = r * Timetable.MOST_STOPS + j;
                    if (fareTo[p] != 0 && table.stations[p] == to) {
                        offer(table.arrivals[p], legs, fareTo[p], codeTo[p]);
                    }
                }
            }
        }

        /** Takes a journey among the options, in its place, unless one beats it; those that it beats go. */
        private void offer(int arrival, int legs, int fare, long code) {
            int kept = 0;
            for (int k = 0; k < options; k++) {
                boolean asGood = arrivals[k] <= arrival && legCounts[k] <= legs && fares[k] <= fare;
                boolean asBad = arrivals[k] >= arrival && legCounts[k] >= legs && fares[k] >= fare;
                // What one option beats can beat no other one, so nothing has been moved yet.
                if (asGood && (!asBad || codes[k] <= code)) {
                    return;
                }
                if (!asBad) {
                    copyOption(k, kept);
                    kept++;
                }
            }
            options = kept;
            if (options >= MOST_OPTIONS) {
                return;
            }
            int at = options;
            while (at > 0 && isAhead(arrival, legs, fare, at - 1)) {
                copyOption(at - 1, at);
                at--;
            }
            arrivals[at] = arrival;
            legCounts[at] = legs;
            fares[at] = fare;
            codes[at] = code;
            options++;
        }

        private boolean isAhead(int arrival, int legs, int fare, int k) {
            if (arrival != arrivals[k]) {
                return arrival < arrivals[k];
            }
            return legs != legCounts[k] ? legs < legCounts[k] : fare < fares[k];
        }

        private void copyOption(int from, int to) {
            arrivals[to] = arrivals[from];
            legCounts[to] = legCounts[from];
            fares[to] = fares[from];
            codes[to] = codes[from];
        }
    }

    /** The trains of the single line, and the best order of them. */
    private static final class Line {
        static final int MOST = 7;
        private static final int APART = 3;

        int size = 0;
        int ordered = 0;
        private final int[] directions = new int[MOST];
        private final int[] readies = new int[MOST];
        private final int[] times = new int[MOST];
        private final int[] dues = new int[MOST];
        private final int[] weights = new int[MOST];
        private final int[] order = new int[MOST];
        private final int[] begins = new int[MOST];
        private final int[] bestOrder = new int[MOST];
        private final int[] bestBegins = new int[MOST];
        private final int[] bestEnds = new int[MOST];
        private int bestCost = 0;

        int add(int direction, int ready, int takes, int due, int weight) {
            directions[size] = direction;
            readies[size] = ready;
            times[size] = takes;
            dues[size] = due;
            weights[size] = weight;
            size++;
            return size - 1;
        }

        int tell(int k, int what) {
            return what == 0 ? bestOrder[k] : what == 1 ? bestBegins[k] : bestEnds[k];
        }

        int findBest() {
            bestCost = Integer.MAX_VALUE;
            ordered = size;
            tryAll(0, 0, 0);
            return bestCost;
        }

        /** Tries trains by numbers, so that of orders that cost the same the first one is kept. */
        private void tryAll(int depth, int taken, int cost) {
            if (cost >= bestCost) {
                return;
            }
            if (depth >= size) {
                keepBest(cost);
                return;
            }
            for (int t = 0; t < size; t++) {
                if (bitOf(taken, t) == 0) {
                    order[depth] = t;
                    begins[depth] = beginOf(t, depth);
                    int late = Math.max(begins[depth] + times[t] - dues[t], 0);
                    tryAll(depth + 1, taken | 1 << t, cost + weights[t] * late);
                }
            }
        }

        private int beginOf(int t, int depth) {
            if (depth == 0) {
                return readies[t];
            }
            int before = order[depth - 1];
            int began = begins[depth - 1];
            int ended = began + times[before];
            if (directions[before] != directions[t]) {
                return Math.max(readies[t], ended);
            }
            return Math.max(readies[t], Math.max(began + APART, ended + APART - times[t]));
        }

        private void keepBest(int cost) {
            bestCost = cost;
            for (int k = 0; k < size; k++) {
                bestOrder[k] = order[k];
                bestBegins[k] = begins[k];
                bestEnds[k] = begins[k] + times[order[k]];
            }
        }
    }
}
