import java.util.ArrayList;
import java.util.HashSet;
import java.util.List;
import java.util.Set;
import java.util.TreeSet;

/**
 * Sections 2 to 8 of the document again, as slowly and as plainly as its words go: lists, no bits; trains as
 * rows of cells of length 1; rows of channels as texts; reports kept for all ticks.
 */
final class PlainHouse {
    static final int NONE = -9;

    // ---- the layout: what each end (3 times the section and 0, 1, 2) is joined to, and its signal
    final int[] kind;
    final int[] length;
    final int[] limit;
    final int[] joined;
    final int[] signalAt;
    final List<Integer> signalEnds = new ArrayList<>();

    final List<Route> routes = new ArrayList<>();
    final Channel[] channels = new Channel[3];
    final List<Train> trains = new ArrayList<>();
    final List<List<Integer>> sectionReports = new ArrayList<>();
    final List<List<Integer>> pointReports = new ArrayList<>();
    final int[] sectionForce;
    final int[] pointForce;
    final int[] lie;
    final int[] goal;
    final int[] goneTicks;
    final boolean[] blocked;
    int[] yardCommands;
    Set<Integer> proceeding = new HashSet<>();
    int[] berth = new int[16];
    int[][] disk;
    boolean down;
    boolean powerless;
    int time;
    int lost;
    int releases;

    static final class Need {
        int point;
        int lie;
        final Set<Integer> because = new HashSet<>(); // sections that must be held
    }

    static final class Route {
        int signal;
        int last = NONE;
        int overlap = NONE;
        final List<Integer> sections = new ArrayList<>();
        final List<Need> needs = new ArrayList<>();
    }

    static final class State {
        int phase;
        int count;
        boolean barred;
        boolean shown;
        int given;
        final Set<Integer> seen = new TreeSet<>();
        boolean came;

        void end() {
            phase = 0;
            count = 0;
            barred = false;
            shown = false;
            given = 0;
            seen.clear();
        }

        int tell(int what) {
            int bits = 0;
            for (int k : seen) {
                bits += 1 << k;
            }
            int[] all = {phase, phase == 0 || phase >= 2 && phase <= 4 ? 0 : count, barred ? 1 : 0, shown ? 1 : 0, given, bits};
            return all[what];
        }
    }

    final class Channel {
        final List<State> states = new ArrayList<>();
        int[] commands = new int[kind.length];
        int fault;
        boolean voting = true;
        String row = "";
        String rowBefore = "";
        Set<Integer> rowSignals = new HashSet<>();
        Set<Integer> rowSignalsBefore = new HashSet<>();
        int[] rowCommands;
        int[] rowCommandsBefore;

        boolean free(int section) {
            return fault == 3 || usedSection(section) == 0;
        }

        boolean holdsAsSection(int r, int section) {
            State s = states.get(r);
            List<Integer> mine = routes.get(r).sections;
            return s.phase >= 1 && s.phase <= 6 && mine.indexOf(section) >= s.given && mine.contains(section);
        }

        boolean holdsAsOverlap(int r, int section) {
            return states.get(r).phase >= 1 && routes.get(r).overlap == section;
        }

        boolean holds(int r, int section) {
            return holdsAsSection(r, section) || holdsAsOverlap(r, section);
        }

        /** To what a route binds a point; -1: it does not. */
        int binds(int r, int point) {
            for (Need n : routes.get(r).needs) {
                for (int section : n.because) {
                    if (n.point == point && holds(r, section)) {
                        return n.lie;
                    }
                }
            }
            return -1;
        }

        boolean pointsLie(int r) {
            for (Need n : routes.get(r).needs) {
                if (usedPoint(n.point) != n.lie) {
                    return false;
                }
            }
            return true;
        }

        boolean groundFree(int r) {
            for (int s : routes.get(r).sections) {
                if (!free(s)) {
                    return false;
                }
            }
            return routes.get(r).overlap == NONE || free(routes.get(r).overlap);
        }

        boolean whole(int r) {
            return groundFree(r) && pointsLie(r);
        }

        boolean set(int r) {
            State s = states.get(r);
            if (s.phase == 2 && s.barred) {
                s.barred = false;
                return true;
            }
            if (s.phase != 0 || !groundFree(r)) {
                return false;
            }
            Route route = routes.get(r);
            for (int q = 0; q < routes.size(); q++) {
                if (q == r) {
                    continue;
                }
                for (int section : route.sections) {
                    if (holdsAsSection(q, section)
                            || holdsAsOverlap(q, section) && routes.get(q).last != route.signal) {
                        return false;
                    }
                }
                if (route.overlap != NONE && holdsAsSection(q, route.overlap)) {
                    return false;
                }
            }
            for (Need n : route.needs) {
                boolean boundOtherwise = false;
                boolean taken = false;
                for (int q = 0; q < routes.size(); q++) {
                    if (q != r) {
                        boundOtherwise |= binds(q, n.point) == 1 - n.lie;
                        taken |= holds(q, n.point) || binds(q, n.point) >= 0;
                    }
                }
                boolean lies = usedPoint(n.point) == n.lie;
                if (boundOtherwise || !lies && (!free(n.point) || taken)) {
                    return false;
                }
            }
            s.end();
            s.phase = 1;
            return true;
        }

        boolean cancel(int r) {
            State s = states.get(r);
            if (s.phase != 1 && s.phase != 2 && s.phase != 3) {
                return false;
            }
            if (s.shown) {
                s.phase = 5;
                s.count = 10;
            } else {
                s.end();
            }
            return true;
        }

        boolean release(int r) {
            State s = states.get(r);
            if (s.phase == 0 || s.phase == 6) {
                return false;
            }
            s.phase = 6;
            s.count = 20;
            return true;
        }

        boolean move(int point, int to) {
            if (!free(point)) {
                return false;
            }
            for (int r = 0; r < routes.size(); r++) {
                if (holds(r, point) || binds(r, point) >= 0) {
                    return false;
                }
            }
            commands[point] = to;
            return true;
        }

        boolean obey(int order, int a, int b) {
            if (fault == 1 || fault == 4) {
                return false;
            }
            return order == 0 ? set(a) : order == 1 ? cancel(a) : order == 2 ? release(a) : move(a, b);
        }

        void cycle() {
            if (fault == 1) {
                return;
            }
            for (int r = 0; r < routes.size(); r++) {
                step(r);
            }
            rowBefore = row;
            rowSignalsBefore = rowSignals;
            rowCommandsBefore = rowCommands;
            makeRow(false);
        }

        void step(int r) {
            State s = states.get(r);
            Route route = routes.get(r);
            int first = route.sections.get(0);
            if (s.phase == 1) {
                if (pointsLie(r)) {
                    s.phase = 2;
                    s.count = 0;
                    return;
                }
                s.count++;
                if (s.count == 12) {
                    s.end();
                    return;
                }
                for (Need n : route.needs) {
                    if (usedPoint(n.point) != n.lie && free(n.point)) {
                        commands[n.point] = n.lie;
                    }
                }
            } else if (s.phase == 2) {
                if (!s.barred && whole(r)) {
                    s.phase = 3;
                    s.shown = true;
                }
            } else if (s.phase == 3) {
                if (!free(first)) {
                    s.phase = 4;
                    s.came = true;
                    use(r);
                } else if (!whole(r)) {
                    s.phase = 2;
                    s.barred = true;
                }
            } else if (s.phase == 4) {
                use(r);
            } else if (s.phase == 5 && !free(first)) {
                s.phase = 4;
                s.came = true;
                use(r);
            } else if (s.phase >= 5) {
                s.count--;
                if (s.count == 0) {
                    s.end();
                }
            }
        }

        void use(int r) {
            State s = states.get(r);
            Route route = routes.get(r);
            int n = route.sections.size();
            for (int k = 0; k < n; k++) {
                if (holdsAsSection(r, route.sections.get(k)) && !free(route.sections.get(k))) {
                    s.seen.add(k);
                }
            }
            while (s.given < n) {
                int k = s.given;
                boolean last = k == n - 1;
                boolean may = s.seen.contains(k)
                        && (last || free(route.sections.get(k)) && s.seen.contains(k + 1));
                if (!may) {
                    return;
                }
                s.given++;
            }
            if (route.overlap == NONE) {
                s.end();
            } else {
                s.phase = 7;
                s.count = 4;
            }
        }

        void makeRow(boolean atFirst) {
            rowSignals = new TreeSet<>();
            for (int i = 0; i < signalEnds.size() && !atFirst; i++) {
                boolean proceeds = fault == 2;
                for (int r = 0; r < routes.size(); r++) {
                    proceeds |= routes.get(r).signal == i && states.get(r).phase == 3;
                }
                if (proceeds) {
                    rowSignals.add(i);
                }
            }
            rowCommands = commands.clone();
            StringBuilder text = new StringBuilder(rowSignals.toString());
            for (int c : commands) {
                text.append(' ').append(c);
            }
            for (State s : states) {
                text.append(" /");
                for (int what = 0; what < 6; what++) {
                    text.append(' ').append(s.tell(what));
                }
            }
            row = text.toString();
        }

        void begin(int[] commanded) {
            fault = 0;
            voting = true;
            commands = commanded.clone();
            for (State s : states) {
                s.end();
            }
            beginRows();
        }

        void beginRows() {
            makeRow(true);
            rowBefore = row;
            rowSignalsBefore = rowSignals;
            rowCommandsBefore = rowCommands;
        }

        String votedRow() {
            return fault == 5 ? rowBefore : row;
        }

        void become(Channel c) {
            commands = c.commands.clone();
            row = c.row;
            rowBefore = c.rowBefore;
            rowSignals = c.rowSignals;
            rowSignalsBefore = c.rowSignalsBefore;
            rowCommands = c.rowCommands;
            rowCommandsBefore = c.rowCommandsBefore;
            for (int r = 0; r < states.size(); r++) {
                State s = states.get(r);
                State t = c.states.get(r);
                s.phase = t.phase;
                s.count = t.count;
                s.barred = t.barred;
                s.shown = t.shown;
                s.given = t.given;
                s.seen.clear();
                s.seen.addAll(t.seen);
            }
        }
    }

    /** A train is a row of cells behind its front; a cell is its section, or NONE outside. */
    static final class Train {
        int length;
        int greatest;
        int brake;
        int number;
        int speed;
        int passed;
        boolean standing;
        boolean gone;
        int section; // of the front, NONE outside
        int place;
        int exit;
        final List<Integer> cells = new ArrayList<>();

        Set<Integer> on() {
            Set<Integer> on = new TreeSet<>();
            for (int i = Math.max(0, cells.size() - length); i < cells.size() && !gone; i++) {
                on.add(cells.get(i));
            }
            if (cells.isEmpty()) {
                on.add(section);
            }
            on.remove(NONE);
            return on;
        }
    }

    PlainHouse(int[] kind, int[] length, int[] limit, int[] joined, int[] signalEnds) {
        this.kind = kind;
        this.length = length;
        this.limit = limit;
        this.joined = joined;
        this.signalAt = new int[joined.length];
        java.util.Arrays.fill(signalAt, NONE);
        for (int end : signalEnds) {
            signalAt[end] = this.signalEnds.size();
            this.signalEnds.add(end);
        }
        int n = kind.length;
        sectionForce = new int[n];
        pointForce = new int[n];
        lie = new int[n];
        goal = new int[n];
        goneTicks = new int[n];
        blocked = new boolean[n];
        yardCommands = new int[n];
        for (int s = 0; s < n; s++) {
            sectionForce[s] = -1;
            pointForce[s] = -1;
            sectionReports.add(new ArrayList<>());
            pointReports.add(new ArrayList<>());
        }
        for (int i = 0; i < this.signalEnds.size(); i++) {
            findWays(i, new ArrayList<>(), this.signalEnds.get(i));
        }
        while (routes.size() > 40) {
            routes.remove(40);
        }
        disk = new int[routes.size()][];
        for (int c = 0; c < 3; c++) {
            channels[c] = new Channel();
            for (int r = 0; r < routes.size(); r++) {
                channels[c].states.add(new State());
            }
            channels[c].begin(yardCommands);
        }
    }

    // ---- routes

    int through(int into, int lies) {
        int section = into / 3;
        int end = into % 3;
        if (kind[section] == 0) {
            return 3 * section + 1 - end;
        }
        if (end == 0 && lies != 2) {
            return 3 * section + 1 + lies;
        }
        return end != 0 && end - 1 == lies ? 3 * section : NONE;
    }

    /** ends: in, out, in, out, .. of the way so far. */
    void findWays(int signal, List<Integer> ends, int leaving) {
        int into = joined[leaving];
        int home = signalEnds.get(signal) / 3;
        if (into / 3 == home || ends.size() == 16) {
            return;
        }
        for (int i = 0; i < ends.size(); i += 2) {
            if (ends.get(i) / 3 == into / 3) {
                return;
            }
        }
        Set<Integer> tried = new HashSet<>();
        for (int lies = 0; lies <= 1; lies++) {
            int out = through(into, lies);
            if (out == NONE || !tried.add(out)) {
                continue;
            }
            List<Integer> longer = new ArrayList<>(ends);
            longer.add(into);
            longer.add(out);
            if (signalAt[out] != NONE || joined[out] == NONE) {
                addRoute(signal, longer);
            } else {
                findWays(signal, longer, out);
            }
        }
    }

    void addRoute(int signal, List<Integer> ends) {
        Route route = new Route();
        route.signal = signal;
        for (int i = 0; i < ends.size(); i += 2) {
            route.sections.add(ends.get(i) / 3);
        }
        boolean fine = true;
        for (int i = 0; i < ends.size(); i += 2) {
            int s = ends.get(i) / 3;
            if (kind[s] == 1) {
                fine &= need(route, s, leg(ends, i) - 1, s);
            }
        }
        int out = ends.get(ends.size() - 1);
        route.last = signalAt[out];
        if (route.last != NONE) {
            int behind = joined[out] / 3;
            if (behind != signalEnds.get(signal) / 3 && !route.sections.contains(behind)) {
                route.overlap = behind;
                if (kind[behind] == 1 && joined[out] % 3 > 0) {
                    fine &= need(route, behind, joined[out] % 3 - 1, behind);
                }
            }
        }
        for (int i = 0; i < ends.size(); i += 2) {
            int s = ends.get(i) / 3;
            if (kind[s] == 1) {
                int other = leg(ends, i) == 1 ? 2 : 1;
                int flank = joined[3 * s + other];
                if (flank != NONE && kind[flank / 3] == 1 && flank % 3 > 0 && !route.sections.contains(flank / 3)) {
                    fine &= need(route, flank / 3, flank % 3 == 1 ? 1 : 0, s);
                }
            }
        }
        if (fine) {
            routes.add(route);
        }
    }

    private static int leg(List<Integer> ends, int i) {
        int in = ends.get(i) % 3;
        return in > 0 ? in : ends.get(i + 1) % 3;
    }

    private static boolean need(Route route, int point, int lie, int because) {
        for (Need n : route.needs) {
            if (n.point == point) {
                n.because.add(because);
                return n.lie == lie;
            }
        }
        Need n = new Need();
        n.point = point;
        n.lie = lie;
        n.because.add(because);
        route.needs.add(n);
        return true;
    }

    int conflict(int a, int b) {
        if (a == b) {
            return 0;
        }
        Route p = routes.get(a);
        Route q = routes.get(b);
        boolean one = false;
        for (int s : p.sections) {
            one |= q.sections.contains(s);
        }
        boolean two = q.sections.contains(p.overlap) || p.sections.contains(q.overlap);
        boolean four = false;
        for (Need n : p.needs) {
            for (Need m : q.needs) {
                four |= n.point == m.point && n.lie != m.lie;
            }
        }
        return (one ? 1 : 0) + (two ? 2 : 0) + (four ? 4 : 0) + (p.signal == q.signal ? 8 : 0);
    }

    // ---- reports

    private static int latest(List<Integer> reports) {
        for (int back = 1; back <= 3 && back <= reports.size(); back++) {
            Integer report = reports.get(reports.size() - back);
            if (report != null) {
                return report;
            }
        }
        return 3;
    }

    int usedSection(int s) {
        return latest(sectionReports.get(s)) == 0 ? 0 : 1;
    }

    int usedPoint(int s) {
        return Math.min(2, latest(pointReports.get(s)));
    }

    // ---- the vote

    Channel house() {
        for (Channel c : channels) {
            if (c.voting) {
                return c;
            }
        }
        return channels[0];
    }

    int holder(int section) {
        for (int r = 0; r < routes.size(); r++) {
            if (house().holds(r, section)) {
                return r;
            }
        }
        return NONE;
    }

    private List<Channel> voters() {
        List<Channel> all = new ArrayList<>();
        for (Channel c : channels) {
            if (c.voting) {
                all.add(c);
            }
        }
        return all;
    }

    private void goDown() {
        down = true;
        proceeding = new HashSet<>();
        for (Channel c : channels) {
            c.voting = false;
        }
    }

    int order(int kind, int a, int b) {
        if (down || powerless) {
            return 0;
        }
        List<Channel> all = voters();
        List<Boolean> answers = new ArrayList<>();
        int yes = 0;
        for (Channel c : all) {
            answers.add(c.obey(kind, a, b));
            yes += answers.get(answers.size() - 1) ? 1 : 0;
        }
        if (all.size() == 2 && yes == 1) {
            goDown();
            return 0;
        }
        boolean answer = yes >= 2;
        for (int i = 0; i < all.size(); i++) {
            all.get(i).voting = answers.get(i) == answer;
        }
        if (answer && kind == 2) {
            releases++;
        }
        return answer ? 1 : 0;
    }

    private void vote() {
        List<Channel> all = voters();
        for (Channel c : all) {
            c.cycle();
        }
        String voted = null;
        for (Channel c : all) {
            for (Channel d : all) {
                if (c != d && c.votedRow().equals(d.votedRow())) {
                    voted = c.votedRow();
                }
            }
        }
        if (voted == null) {
            goDown();
            return;
        }
        for (Channel c : all) {
            c.voting = c.votedRow().equals(voted);
        }
        Channel first = house();
        proceeding = first.fault == 5 ? first.rowSignalsBefore : first.rowSignals;
        yardCommands = (first.fault == 5 ? first.rowCommandsBefore : first.rowCommands).clone();
    }

    private int[] asPointsLie() {
        int[] all = new int[kind.length];
        for (int s = 0; s < kind.length; s++) {
            all[s] = kind[s] == 1 && lie[s] == 1 ? 1 : 0;
        }
        return all;
    }

    int reset() {
        boolean cutOff = voters().size() < 3;
        if (powerless || !cutOff) {
            return -3;
        }
        if (down) {
            for (Train t : trains) {
                if (t.speed > 0) {
                    return -3;
                }
            }
            yardCommands = asPointsLie();
            for (Channel c : channels) {
                c.begin(yardCommands);
            }
            down = false;
            return 1;
        }
        Channel first = house();
        for (Channel c : channels) {
            if (!c.voting) {
                c.become(first);
                c.voting = true;
            }
            c.fault = 0;
        }
        return 1;
    }

    int sync() {
        if (powerless || down) {
            return -3;
        }
        for (int r = 0; r < routes.size(); r++) {
            State s = house().states.get(r);
            disk[r] = s.phase == 0 ? null : new int[] {s.phase, s.given, s.tell(5)};
        }
        return onDisk();
    }

    private int onDisk() {
        int n = 0;
        for (int[] held : disk) {
            n += held == null ? 0 : 1;
        }
        return n;
    }

    int cut() {
        if (powerless) {
            return -3;
        }
        powerless = true;
        proceeding = new HashSet<>();
        return 1;
    }

    int start() {
        if (!powerless) {
            return -3;
        }
        powerless = false;
        down = false;
        yardCommands = asPointsLie();
        for (int s = 0; s < kind.length; s++) {
            sectionReports.get(s).clear();
            pointReports.get(s).clear();
        }
        for (Channel c : channels) {
            c.begin(yardCommands);
            for (int r = 0; r < routes.size(); r++) {
                State s = c.states.get(r);
                if (disk[r] == null) {
                    continue;
                }
                s.shown = true;
                int phase = disk[r][0];
                if (phase == 4 || phase == 6 || phase == 7) {
                    s.phase = phase;
                    s.count = phase == 4 ? 0 : phase == 6 ? 20 : 4;
                    s.given = disk[r][1];
                    for (int k = 0; k < 8; k++) {
                        if ((disk[r][2] >> k & 1) == 1) {
                            s.seen.add(k);
                        }
                    }
                } else {
                    s.phase = 2;
                    s.barred = true;
                }
            }
            c.beginRows();
        }
        return onDisk();
    }

    // ---- the yard

    int enter(int section, int trainLength, int greatest, int brake, int number) {
        int in = NONE;
        for (int end = 0; end < 2 && kind[section] == 0; end++) {
            if (joined[3 * section + end] == NONE && signalAt[3 * section + 1 - end] != NONE) {
                in = 3 * section + end;
            }
        }
        if (in == NONE) {
            return -2;
        }
        if (trainOn(section) != NONE || holder(section) != NONE) {
            return -3;
        }
        int present = 0;
        for (Train t : trains) {
            present += t.gone ? 0 : 1;
        }
        if (present == 8 || trains.size() == 200) {
            return -4;
        }
        Train t = new Train();
        t.length = trainLength;
        t.greatest = greatest;
        t.brake = brake;
        t.number = number;
        t.section = section;
        t.exit = through(in, 0);
        trains.add(t);
        int signal = signalAt[t.exit];
        lost += berth[signal] != 0 ? 1 : 0;
        berth[signal] = number;
        return trains.size() - 1;
    }

    int trainOn(int section) {
        for (int i = 0; i < trains.size(); i++) {
            if (!trains.get(i).gone && trains.get(i).on().contains(section)) {
                return i;
            }
        }
        return NONE;
    }

    private boolean stops(int end) {
        return signalAt[end] != NONE && !proceeding.contains(signalAt[end]);
    }

    /** The sections of the cells ahead of the front; the list ends where the leave does. */
    private List<Integer> cellsAhead(Train t, int most) {
        List<Integer> cells = new ArrayList<>();
        int section = t.section;
        int place = t.place;
        int exit = t.exit;
        while (cells.size() < most) {
            if (section != NONE && place == length[section]) {
                if (stops(exit)) {
                    return cells;
                }
                int into = joined[exit];
                if (into == NONE) {
                    section = NONE;
                    continue;
                }
                int out = through(into, lie[into / 3]);
                if (out == NONE) {
                    return cells;
                }
                section = into / 3;
                place = 0;
                exit = out;
            }
            cells.add(section);
            place++;
        }
        return cells;
    }

    int leave(Train t) {
        int cells = cellsAhead(t, 6000).size();
        return cells == 6000 ? NONE : cells;
    }

    private boolean safe(Train t, int v) {
        int sum = 0;
        for (int u = v; u > 0; u -= t.brake) {
            sum += u;
        }
        List<Integer> ahead = cellsAhead(t, sum);
        if (ahead.size() < sum) {
            return false;
        }
        List<Integer> row = new ArrayList<>(t.cells);
        for (int u = v; u > 0; u -= t.brake) {
            int rear = row.size() - t.length;
            for (int i = 0; i < u; i++) {
                row.add(ahead.get(row.size() - t.cells.size()));
            }
            for (int i = Math.max(0, rear); i < row.size(); i++) {
                if (row.get(i) != NONE && limit[row.get(i)] < u) {
                    return false;
                }
            }
        }
        return true;
    }

    private Set<Integer> moveTrain(Train t) {
        Set<Integer> swept = new HashSet<>(t.on());
        int least = Math.max(0, t.speed - t.brake);
        int v = Math.min(t.greatest, t.speed + 1);
        if (t.standing) {
            v = least;
        }
        while (v > least && !safe(t, v)) {
            v--;
        }
        t.speed = v;
        for (int i = 0; i < v; i++) {
            if (t.section != NONE && t.place == length[t.section]) {
                int into = joined[t.exit];
                if (into == NONE) {
                    t.section = NONE;
                    t.place = 0;
                } else {
                    int out = through(into, lie[into / 3]);
                    if (out == NONE) {
                        t.speed = 0;
                        break;
                    }
                    t.passed += stops(t.exit) ? 1 : 0;
                    t.section = into / 3;
                    t.place = 0;
                    t.exit = out;
                }
            }
            t.place++;
            t.cells.add(t.section);
            if (t.section != NONE) {
                swept.add(t.section);
            }
        }
        if (t.section == NONE && t.place >= t.length) {
            t.gone = true;
            t.speed = 0;
        }
        return swept;
    }

    void tick() {
        time++;
        for (int s = 0; s < kind.length; s++) {
            boolean goes = lie[s] == 2;
            int at = goes ? goal[s] : lie[s];
            if (yardCommands[s] != at) {
                goal[s] = yardCommands[s];
                lie[s] = 2;
                goneTicks[s] = 1;
            } else if (goes) {
                goneTicks[s]++;
                if (goneTicks[s] > 3 && !blocked[s]) {
                    lie[s] = goal[s];
                }
            }
        }
        Set<Integer> swept = new HashSet<>();
        for (Train t : trains) {
            if (!t.gone) {
                swept.addAll(moveTrain(t));
            }
        }
        for (int s = 0; s < kind.length; s++) {
            int f = sectionForce[s];
            sectionReports.get(s).add(f == -2 ? null : Integer.valueOf(f == -1 ? (swept.contains(s) ? 1 : 0) : f));
            f = pointForce[s];
            pointReports.get(s).add(f == -2 ? null : Integer.valueOf(f == -1 ? lie[s] : f));
        }
        for (Channel c : channels) {
            for (State s : c.states) {
                s.came = false;
            }
        }
        if (!down && !powerless) {
            vote();
        }
        for (int r = 0; r < routes.size() && !down; r++) {
            int from = routes.get(r).signal;
            int to = routes.get(r).last;
            if (house().states.get(r).came && berth[from] != 0) {
                if (to != NONE) {
                    lost += berth[to] != 0 ? 1 : 0;
                    berth[to] = berth[from];
                }
                berth[from] = 0;
            }
        }
    }

    int audit() {
        Channel h = house();
        for (int i : proceeding) {
            boolean fine = false;
            for (int r = 0; r < routes.size(); r++) {
                fine |= routes.get(r).signal == i && h.states.get(r).phase == 3;
            }
            if (!fine) {
                return 1;
            }
        }
        for (int r = 0; r < routes.size(); r++) {
            if (h.states.get(r).phase != 3 || !proceeding.contains(routes.get(r).signal)) {
                continue;
            }
            boolean fine = h.pointsLie(r);
            for (int s : routes.get(r).sections) {
                fine &= usedSection(s) == 0;
            }
            if (!fine || routes.get(r).overlap != NONE && usedSection(routes.get(r).overlap) != 0) {
                return 2;
            }
        }
        int wrong = 9;
        for (int q = 0; q < routes.size(); q++) {
            for (int r = q + 1; r < routes.size(); r++) {
                for (int s = 0; s < kind.length; s++) {
                    if (h.holdsAsSection(q, s) && h.holdsAsSection(r, s)) {
                        wrong = Math.min(wrong, 3);
                    }
                    if (h.binds(q, s) >= 0 && h.binds(r, s) == 1 - h.binds(q, s)) {
                        wrong = Math.min(wrong, 4);
                    }
                }
            }
        }
        if (wrong < 9) {
            return wrong;
        }
        for (int s = 0; s < kind.length; s++) {
            int on = 0;
            for (Train t : trains) {
                on += !t.gone && t.on().contains(s) ? 1 : 0;
            }
            if (on > 1) {
                return 5;
            }
        }
        return 0;
    }
}
