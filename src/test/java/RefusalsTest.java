import java.util.ArrayList;
import java.util.List;
import java.util.function.Consumer;
import java.util.function.ToIntFunction;

/**
 * The head of "Terms": of several refusals the first one of UNKNOWN, OUTSIDE, STATE, ROOM, and they change nothing.
 * In each of several states every call is made with every mixture of numbers at and beyond its bounds; what must
 * be refused is worked out here, from the bounds that the document tells and from what the house tells of itself.
 */
public final class RefusalsTest {
    private static final int ACCEPTED = 1 << 20;
    private static final int MIN = Integer.MIN_VALUE, MAX = Integer.MAX_VALUE;
    private static final int STOPS_OF_RUN_0 = 4;

    private static int refused = 0;
    private static int[] codes = new int[10];

    private interface Due {
        int of(RailwayHouse x, int[] args);
    }

    private interface Made {
        int by(RailwayHouse x, int[] args);
    }

    private static final class Kind {
        final String name;
        final int[][] edges;
        final Due due;
        final Made made;

        Kind(String name, Due due, Made made, int[]... edges) {
            this.name = name;
            this.due = due;
            this.made = made;
            this.edges = edges;
        }
    }

    public static void main(String[] args) {
        statesAreAsMeant();
        inState("new", RefusalsTest::nothing);
        inState("new, without power", x -> x.cut());
        inState("loaded", x -> Check.load(x, Check.STATION));
        inState("busy", RefusalsTest::makeBusy);
        inState("down", RefusalsTest::makeDown);
        inState("down, its trains stand", RefusalsTest::makeDownAndStanding);
        inState("without power", RefusalsTest::makeCut);
        inState("full", RefusalsTest::makeFull);
        inState("all came", RefusalsTest::makeAllCame);
        ordersNotTaken("busy", RefusalsTest::makeBusy);
        ordersNotTaken("down", RefusalsTest::makeDown);
        ordersNotTaken("without power", RefusalsTest::makeCut);
        Check.due("many were refused", refused > 10000);
        for (int code = 1; code <= 4; code++) {
            Check.due("refusal " + -code + " was met", codes[code] > 5);
        }
        Check.end("RefusalsTest");
    }

    // ---- the states

    private static void nothing(RailwayHouse x) {
    }

    private static void makeTables(RailwayHouse x) {
        x.station(0, 3, 1);
        x.station(1, 0, 4);
        x.run(2);
        x.run(1);
        x.run(3);
        x.stopAt(0, 0, 5, 6);
        x.stopAt(0, 1, 20, 20);
        x.stopAt(0, 2, 30, 31);
        x.stopAt(0, 3, 40, 50);
        x.stopAt(1, 1, 24, 25);
        x.stopAt(1, 2, 28, 28);
        x.journey(0, 2, 0);
        // Both seats of run 0 between its first two stops; a hold that is paid, one given back, one that ended.
        x.hold(0, 0, 1, 500);
        x.hold(0, 0, 2, 500);
        x.hold(1, 0, 1, 500);
        x.pay(1);
        x.hold(0, 2, 3, 500);
        x.give(3);
        x.line(0, 0, 10, 10, 1);
        x.line(1, 0, 10, 10, 2);
        x.dispatch();
        x.line(0, 3, 10, 12, 1);
    }

    private static void makeBusy(RailwayHouse x) {
        Check.load(x, Check.STATION);
        makeTables(x);
        x.hold(0, 2, 3, 0);
        x.tick(1);
        x.set(0);
        x.set(2);
        x.tick(2);
        x.sync();
        x.enter(0, 3, 5, 1, 41);
        x.interpose(2, 17);
        x.force(0, 3, -2);
        x.force(1, 4, 2);
        x.block(1, true);
        x.tick(1);
        x.release(2);
        x.fault(1, 3);
        x.tick(1);
        x.stand(0, true);
        Check.type(x, "plain 5 5; plain 61 1;");
        x.load();
    }

    private static void makeDown(RailwayHouse x) {
        makeBusy(x);
        x.stand(0, false);
        x.fault(0, 4);
        x.cancel(0);
        x.fault(1, 4);
        x.release(0);
        x.tick(1);
    }

    private static void makeDownAndStanding(RailwayHouse x) {
        makeDown(x);
        x.stand(0, true);
        x.tick(9);
    }

    private static void makeCut(RailwayHouse x) {
        makeBusy(x);
        x.sync();
        x.cut();
        x.tick(1);
    }

    private static void makeFull(RailwayHouse x) {
        StringBuilder text = new StringBuilder();
        for (int i = 0; i < 24; i++) {
            text.append("plain 9 9;");
        }
        for (int i = 0; i < 12; i++) {
            text.append("join ").append(2 * i).append(" b ").append(2 * i + 1).append(" a;");
        }
        for (int i = 0; i < 12; i++) {
            text.append("signal ").append(2 * i).append(" b;");
        }
        for (int i = 0; i < 4; i++) {
            text.append("signal ").append(2 * i + 1).append(" a;");
        }
        Check.load(x, text.toString());
        for (int i = 0; i < 8; i++) {
            x.enter(2 * i, 1, 9, 1, 100 + i);
        }
        makeTables(x);
        for (int i = 3; i < 12; i++) {
            x.run(20);
        }
        for (int i = 0; i < 8; i++) {
            x.stopAt(3, i, 10 * i, 10 * i);
            x.stopAt(4, i, 10 * i, 10 * i);
            x.stopAt(5, i, 10 * i, 10 * i);
        }
        for (int i = 0; x.count(11) < 60; i++) {
            x.hold(3 + i / 20, 0, 1, 900);
        }
        for (int i = 0; i < 7; i++) {
            x.line(i % 2, i, 10, 20, 3);
        }
        for (int i = 0; i < 100; i++) {
            x.feed(0x706c6169, 0x6e203720, 0x333b2020, 0x20202020, 0x20202020);
        }
    }

    private static void makeAllCame(RailwayHouse x) {
        Check.load(x, "plain 1 9;plain 1 9;join 0 b 1 a;signal 0 b;");
        for (int c = 0; c < 3; c++) {
            x.fault(c, 2);
        }
        x.tick(1);
        for (int i = 0; i < 200; i++) {
            x.enter(0, 1, 9, 5, 1 + i);
            x.tick(2);
        }
        makeTables(x);
        x.give(0);
        x.give(1);
        for (int i = 4; i < 400; i++) {
            x.hold(0, 0, 1, 0);
            x.give(i);
        }
    }

    private static RailwayHouse made(Consumer<RailwayHouse> past) {
        RailwayHouse x = new RailwayHouse();
        past.accept(x);
        return x;
    }

    private static void statesAreAsMeant() {
        RailwayHouse busy = made(RefusalsTest::makeBusy);
        Check.due("busy: all vote", busy.channel(0, 0) + busy.channel(1, 0) + busy.channel(2, 0), 3);
        Check.due("busy: a train goes", busy.train(0, 2), 2);
        Check.dueText("busy: a route is barred", Check.routeIn(busy, 0, 0), "2 0 1 1 0 0");
        Check.dueText("busy: a route is forced free", Check.routeIn(busy, 0, 2), "6 19 1 1 0 0");
        Check.due("busy: a hold is paid", busy.holdAt(1, 1), 1);
        Check.due("busy: a hold was given back", busy.holdAt(3, 1), 2);
        Check.due("busy: a hold has ended", busy.holdAt(4, 1), 2);
        Check.due("busy: a load was refused", busy.place(), 17);
        RailwayHouse down = made(RefusalsTest::makeDown);
        Check.due("down", down.count(6), 1);
        Check.due("down: a train goes", down.train(0, 2), 3);
        RailwayHouse standing = made(RefusalsTest::makeDownAndStanding);
        Check.due("down", standing.count(6), 1);
        Check.due("down: a train stands", standing.train(0, 2), 0);
        Check.due("cut", made(RefusalsTest::makeCut).count(7), 1);
        RailwayHouse full = made(RefusalsTest::makeFull);
        int[] most = {24, 16, 16, 0, 8, 8, 0, 0, 0, 0, 12, 60, 61, 7, 2000};
        for (int what = 0; what <= 14; what++) {
            Check.due("full: count " + what, full.count(what), most[what]);
        }
        RailwayHouse came = made(RefusalsTest::makeAllCame);
        Check.due("all came: trains", came.count(5), 200);
        Check.due("all came: holds", came.count(12), 400);
        Check.due("all came: a train is gone", came.train(199, 3), 1);
    }

    // ---- every call in a state

    private static void inState(String state, Consumer<RailwayHouse> past) {
        refusedLoads(state, past);
        for (Kind kind : kinds()) {
            Twins twins = new Twins(state, past);
            int[][] choices = new int[kind.edges.length][];
            for (int i = 0; i < choices.length; i++) {
                choices[i] = kind.edges[i][0] == COUNTED ? around(0, howMany(twins.one, kind.edges[i][1]) - 1) : kind.edges[i];
            }
            tryAll(twins, kind, choices, new int[choices.length], 0);
            twins.end();
        }
    }

    /** "-10 less the FAULT (all stays)": all but the place, which place() is there to tell. */
    private static void refusedLoads(String state, Consumer<RailwayHouse> past) {
        String[] texts = {"$", "plain 1;", "plan 1 1;", "plain 61 1;", "plain 1 1; join 0 a 0 a;", "point 1 1; stop 0 1;",
            "plain 1 1;".repeat(25), "plain 1 1; signal 0 a;"};
        int[] places = {0, 7, 0, 6, 22, 16, 240, 22};
        for (int i = 0; i < texts.length; i++) {
            String text = texts[i];
            Twins twins = new Twins(state, past.andThen(x -> x.end(0)).andThen(x -> Check.type(x, text)));
            Check.due(state + ": load of " + text, twins.one.load(), -11 - i);
            Check.due(state + ": place of " + text, twins.one.place(), places[i]);
            Check.due(state + ": all stays behind a load of " + text,
                    Told.allButPlace(twins.one).equals(Told.allButPlace(twins.other)));
            twins.end();
        }
    }

    private static void tryAll(Twins twins, Kind kind, int[][] choices, int[] args, int depth) {
        if (depth < args.length) {
            for (int choice : choices[depth]) {
                args[depth] = choice;
                tryAll(twins, kind, choices, args, depth + 1);
            }
            return;
        }
        int due = kind.due.of(twins.one, args);
        if (due != ACCEPTED) {
            refused++;
            codes[-due]++;
            int[] mine = args.clone();
            twins.refuses(kind.name + java.util.Arrays.toString(args), due, x -> kind.made.by(x, mine));
        }
    }

    // ---- numbers at and beyond a bound

    private static final int COUNTED = 123456789;
    private static final int OPTIONS = 100, STOPS = 101;

    private static int[] around(int low, int high) {
        int[] all = {MIN, low - 1, low, high, high + 1, MAX};
        return low < high ? all : low == high ? new int[] {MIN, low - 1, low, low + 1, MAX} : new int[] {MIN, -1, 0, 1, MAX};
    }

    /** The numbers of things of which there are as many as count() tells of this. */
    private static int[] things(int what) {
        return new int[] {COUNTED, what};
    }

    private static int howMany(RailwayHouse x, int what) {
        if (what == OPTIONS) {
            int n = 0;
            while (x.option(n, 0) >= 0) {
                n++;
            }
            return n;
        }
        return what == STOPS ? STOPS_OF_RUN_0 : x.count(what);
    }

    private static boolean is(RailwayHouse x, int what, int number) {
        return number >= 0 && number < howMany(x, what);
    }

    private static boolean within(int number, int low, int high) {
        return number >= low && number <= high;
    }

    private static int due(boolean unknown, boolean outside, boolean state, boolean room) {
        return unknown ? Check.UNKNOWN : outside ? Check.OUTSIDE : state ? Check.STATE : room ? Check.ROOM : ACCEPTED;
    }

    private static int due(boolean unknown, boolean outside) {
        return due(unknown, outside, false, false);
    }

    private static boolean isPoint(RailwayHouse x, int section) {
        return is(x, 0, section) && x.section(section, 0) == 1;
    }

    private static boolean isCut(RailwayHouse x) {
        return x.count(7) == 1;
    }

    private static boolean isDown(RailwayHouse x) {
        return x.count(6) == 1;
    }

    // ---- the calls

    private static List<Kind> kinds() {
        List<Kind> all = new ArrayList<>();
        addLayout(all);
        addOrders(all);
        addYard(all);
        addTimetable(all);
        addLine(all);
        return all;
    }

    private static void addLayout(List<Kind> all) {
        all.add(new Kind("feed", (x, a) -> due(false, false, false, x.count(14) > 1980),
                (x, a) -> x.feed(a[0], a[0], a[0], a[0], a[0]), new int[] {0, 0x20202020, MIN, MAX}));
        all.add(new Kind("end", (x, a) -> due(false, !within(a[0], 0, x.count(14))), (x, a) -> x.end(a[0]),
                new int[] {MIN, -1, 0, 1, 2000, 2001, MAX}));
        all.add(new Kind("section", (x, a) -> due(!is(x, 0, a[0]), !within(a[1], 0, 8)),
                (x, a) -> x.section(a[0], a[1]), things(0), around(0, 8)));
        all.add(new Kind("signal", (x, a) -> due(!is(x, 1, a[0]), !within(a[1], 0, 3)),
                (x, a) -> x.signal(a[0], a[1]), things(1), around(0, 3)));
        all.add(new Kind("route", (x, a) -> due(!is(x, 2, a[0]), !within(a[1], 0, 4)),
                (x, a) -> x.route(a[0], a[1]), things(2), around(0, 4)));
        all.add(new Kind("routeSection", (x, a) -> due(!is(x, 2, a[0]), false),
                (x, a) -> x.routeSection(a[0], a[1]), things(2), around(0, 8)));
        all.add(new Kind("routeNeed", (x, a) -> due(!is(x, 2, a[0]), false),
                (x, a) -> x.routeNeed(a[0], a[1]), things(2), around(0, 16)));
        all.add(new Kind("conflict", (x, a) -> due(!is(x, 2, a[0]) || !is(x, 2, a[1]), false),
                (x, a) -> x.conflict(a[0], a[1]), things(2), things(2)));
        all.add(new Kind("count", (x, a) -> due(false, !within(a[0], 0, 14)), (x, a) -> x.count(a[0]), around(0, 14)));
    }

    private static void addOrders(List<Kind> all) {
        all.add(new Kind("set", (x, a) -> due(!is(x, 2, a[0]), false), (x, a) -> x.set(a[0]), things(2)));
        all.add(new Kind("cancel", (x, a) -> due(!is(x, 2, a[0]), false), (x, a) -> x.cancel(a[0]), things(2)));
        all.add(new Kind("release", (x, a) -> due(!is(x, 2, a[0]), false), (x, a) -> x.release(a[0]), things(2)));
        all.add(new Kind("move", (x, a) -> due(!isPoint(x, a[0]), !within(a[1], 0, 1)), (x, a) -> x.move(a[0], a[1]),
                new int[] {MIN, -1, 0, 1, 4, 5, 6, 24, MAX}, around(0, 1)));
        all.add(new Kind("routeAt", (x, a) -> due(!within(a[0], 0, 2) || !is(x, 2, a[1]), !within(a[2], 0, 5)),
                (x, a) -> x.routeAt(a[0], a[1], a[2]), around(0, 2), things(2), around(0, 5)));
        all.add(new Kind("holder", (x, a) -> due(!is(x, 0, a[0]), false), (x, a) -> x.holder(a[0]), things(0)));
        all.add(new Kind("force", (x, a) -> due(a[0] == 1 ? !isPoint(x, a[1]) : !is(x, 0, a[1]),
                !within(a[0], 0, 1) || !within(a[2], -2, 3)), (x, a) -> x.force(a[0], a[1], a[2]),
                around(0, 1), new int[] {MIN, -1, 0, 1, 4, 5, 6, 24, MAX}, around(-2, 3)));
        all.add(new Kind("used", (x, a) -> due(a[0] == 1 ? !isPoint(x, a[1]) : !is(x, 0, a[1]), !within(a[0], 0, 1)),
                (x, a) -> x.used(a[0], a[1]), around(0, 1), new int[] {MIN, -1, 0, 1, 4, 5, 6, 24, MAX}));
        all.add(new Kind("fault", (x, a) -> due(!within(a[0], 0, 2), !within(a[1], 0, 5)),
                (x, a) -> x.fault(a[0], a[1]), around(0, 2), around(0, 5)));
        all.add(new Kind("channel", (x, a) -> due(!within(a[0], 0, 2), !within(a[1], 0, 1)),
                (x, a) -> x.channel(a[0], a[1]), around(0, 2), around(0, 1)));
        all.add(new Kind("reset", (x, a) -> due(false, false, !mayReset(x), false), (x, a) -> x.reset()));
        all.add(new Kind("sync", (x, a) -> due(false, false, isCut(x) || isDown(x), false), (x, a) -> x.sync()));
        all.add(new Kind("cut", (x, a) -> due(false, false, isCut(x), false), (x, a) -> x.cut()));
        all.add(new Kind("start", (x, a) -> due(false, false, !isCut(x), false), (x, a) -> x.start()));
    }

    private static boolean mayReset(RailwayHouse x) {
        boolean goes = false;
        for (int t = 0; t < x.count(5); t++) {
            goes = goes || x.train(t, 2) > 0;
        }
        boolean cutOff = x.channel(0, 0) + x.channel(1, 0) + x.channel(2, 0) < 3;
        return !isCut(x) && (isDown(x) ? !goes : cutOff);
    }

    private static void addYard(List<Kind> all) {
        all.add(new Kind("lie", (x, a) -> due(!isPoint(x, a[0]), false), (x, a) -> x.lie(a[0]),
                new int[] {MIN, -1, 0, 1, 4, 5, 6, 24, MAX}));
        all.add(new Kind("block", (x, a) -> due(!isPoint(x, a[0]), false), (x, a) -> x.block(a[0], a[1] == 1),
                new int[] {MIN, -1, 0, 1, 4, 5, 6, 24, MAX}, new int[] {0, 1}));
        all.add(new Kind("enter", RefusalsTest::dueOfEnter, (x, a) -> x.enter(a[0], a[1], a[2], a[3], a[4]),
                new int[] {MIN, -1, 0, 1, 2, 5, 6, 16, 23, 24, MAX}, new int[] {0, 1, 30, 31}, new int[] {0, 1, 9, 10},
                new int[] {0, 1, 5, 6}, new int[] {0, 1, 9999, 10000}));
        all.add(new Kind("stand", (x, a) -> due(!is(x, 5, a[0]), false, x.train(a[0], 3) == 1, false),
                (x, a) -> x.stand(a[0], a[1] == 1), things(5), new int[] {0, 1}));
        all.add(new Kind("train", (x, a) -> due(!is(x, 5, a[0]), !within(a[1], 0, 6)),
                (x, a) -> x.train(a[0], a[1]), things(5), around(0, 6)));
        all.add(new Kind("leave", (x, a) -> due(!is(x, 5, a[0]), false, x.train(a[0], 3) == 1, false),
                (x, a) -> x.leave(a[0]), things(5)));
        all.add(new Kind("trainOn", (x, a) -> due(!is(x, 0, a[0]), false), (x, a) -> x.trainOn(a[0]), things(0)));
        all.add(new Kind("tick", (x, a) -> due(false, !within(a[0], 1, 50), x.count(0) == 0, false),
                (x, a) -> x.tick(a[0]), around(1, 50)));
        all.add(new Kind("interpose", (x, a) -> due(!is(x, 1, a[0]), !within(a[1], 0, 9999)),
                (x, a) -> x.interpose(a[0], a[1]), things(1), around(0, 9999)));
    }

    private static int dueOfEnter(RailwayHouse x, int[] a) {
        if (!is(x, 0, a[0])) {
            return Check.UNKNOWN;
        }
        boolean byA = x.section(a[0], 4) == Check.NONE && x.section(a[0], 8) != Check.NONE;
        boolean byB = x.section(a[0], 5) == Check.NONE && x.section(a[0], 7) != Check.NONE;
        boolean fits = x.section(a[0], 0) == 0 && (byA || byB) && within(a[1], 1, 30) && within(a[2], 1, 9)
                && within(a[3], 1, 5) && within(a[4], 1, 9999);
        return due(false, !fits, x.trainOn(a[0]) != Check.NONE || x.holder(a[0]) != Check.NONE,
                x.count(4) == 8 || x.count(5) == 200);
    }

    private static void addTimetable(List<Kind> all) {
        all.add(new Kind("station", (x, a) -> due(!within(a[0], 0, 7), !within(a[1], 0, 60) || !within(a[2], 0, 9)),
                (x, a) -> x.station(a[0], a[1], a[2]), around(0, 7), around(0, 60), around(0, 9)));
        all.add(new Kind("run", (x, a) -> due(false, !within(a[0], 1, 20), false, x.count(10) == 12),
                (x, a) -> x.run(a[0]), around(1, 20)));
        all.add(new Kind("stopAt of run 0, which leaves its last stop at 50", (x, a) -> due(
                !is(x, 10, 0) || !within(a[0], 0, 7), !within(a[1], 50, 10000) || !within(a[2], a[1], 10000)),
                (x, a) -> x.stopAt(0, a[0], a[1], a[2]),
                around(0, 7), new int[] {MIN, -1, 0, 49, 50, 10000, 10001, MAX}, new int[] {MIN, -1, 0, 50, 10000, 10001, MAX}));
        all.add(new Kind("stopAt", (x, a) -> due(!is(x, 10, a[0]), !within(a[1], 0, 10000)),
                (x, a) -> x.stopAt(a[0], 0, a[1], a[1]),
                things(10), new int[] {MIN, -1, 10001, MAX}));
        all.add(new Kind("stopAt of run 3, which has 8 in the full state", (x, a) -> due(!is(x, 10, 3), a[0] < 70 || a[0] > 10000,
                false, true), (x, a) -> x.stopAt(3, 0, a[0], a[0]), new int[] {69, 70, 10000, 10001}));
        all.add(new Kind("journey", (x, a) -> due(!within(a[0], 0, 7) || !within(a[1], 0, 7),
                !within(a[2], 0, 10000) || a[0] == a[1]), (x, a) -> x.journey(a[0], a[1], a[2]),
                around(0, 7), around(0, 7), around(0, 10000)));
        all.add(new Kind("option", (x, a) -> due(!is(x, OPTIONS, a[0]), !within(a[1], 0, 3)),
                (x, a) -> x.option(a[0], a[1]), things(OPTIONS), around(0, 3)));
        all.add(new Kind("leg", (x, a) -> due(!is(x, OPTIONS, a[0]), !within(a[2], 0, 2)),
                (x, a) -> x.leg(a[0], a[1], a[2]), things(OPTIONS), around(0, 4), around(0, 2)));
        all.add(new Kind("hold of run 0, whose last part alone has a seat", (x, a) -> dueOfHold(x, a),
                (x, a) -> x.hold(0, a[0], a[1], a[2]), new int[] {MIN, -1, 0, 1, 2, 3, 4, MAX},
                new int[] {MIN, -1, 0, 1, 2, 3, 4, MAX}, around(0, 1000000)));
        all.add(new Kind("hold", (x, a) -> due(!is(x, 10, a[0]), !within(a[1], 0, 1000000) || a[0] < 2),
                (x, a) -> x.hold(a[0], 1, 1, a[1]), new int[] {MIN, -1, 0, 1, 12, MAX}, around(0, 1000000)));
        all.add(new Kind("pay", (x, a) -> due(!is(x, 12, a[0]), false, x.holdAt(a[0], 1) != 0, false),
                (x, a) -> x.pay(a[0]), new int[] {MIN, -1, 0, 1, 2, 3, 4, 5, 399, 400, MAX}));
        all.add(new Kind("give", (x, a) -> due(!is(x, 12, a[0]), false, x.holdAt(a[0], 1) == 2, false),
                (x, a) -> x.give(a[0]), new int[] {MIN, -1, 0, 1, 2, 3, 4, 5, 399, 400, MAX}));
        all.add(new Kind("holdAt", (x, a) -> due(!is(x, 12, a[0]), !within(a[1], 0, 2)),
                (x, a) -> x.holdAt(a[0], a[1]), things(12), around(0, 2)));
    }

    private static int dueOfHold(RailwayHouse x, int[] a) {
        boolean known = is(x, 10, 0) && is(x, STOPS, a[0]) && is(x, STOPS, a[1]);
        // The two holds 0 and 1 take both seats of the first part, if neither is gone.
        boolean noSeat = a[0] == 0 && x.holdAt(0, 1) != 2 && x.holdAt(1, 1) != 2;
        return due(!known, a[0] >= a[1] || !within(a[2], 0, 1000000), noSeat, x.count(11) == 60 || x.count(12) == 400);
    }

    private static void addLine(List<Kind> all) {
        all.add(new Kind("line", (x, a) -> due(false, !within(a[0], 0, 1) || !within(a[1], 0, 1000) || !within(a[2], 1, 100)
                || !within(a[3], 0, 2000) || !within(a[4], 0, 20), false, x.count(13) == 7),
                (x, a) -> x.line(a[0], a[1], a[2], a[3], a[4]), new int[] {-1, 0, 1, 2}, new int[] {-1, 0, 1000, 1001},
                new int[] {0, 1, 100, 101}, new int[] {-1, 0, 2000, 2001}, new int[] {-1, 0, 20, 21}));
        all.add(new Kind("line far outside", (x, a) -> Check.OUTSIDE,
                (x, a) -> x.line(a[0] == 0 ? a[1] : 0, a[0] == 1 ? a[1] : 0, a[0] == 2 ? a[1] : 1, a[0] == 3 ? a[1] : 0,
                        a[0] == 4 ? a[1] : 0), new int[] {0, 1, 2, 3, 4}, new int[] {MIN, MAX}));
        all.add(new Kind("turn", (x, a) -> due(false, !within(a[1], 0, 2)), (x, a) -> x.turn(a[0], a[1]),
                new int[] {MIN, -1, 0, 1, 2, 6, 7, MAX}, around(0, 2)));
    }

    // ---- orders that are not taken

    /** "Otherwise what is ordered is not taken": none of the channels that vote is another one behind it. */
    private static void ordersNotTaken(String state, Consumer<RailwayHouse> past) {
        int none = 0;
        for (int order = 0; order < 3; order++) {
            for (int route = 0; route < 8; route++) {
                int o = order;
                int r = route;
                none += notTaken(state + ": order " + o + " of route " + r, past,
                        x -> o == 0 ? x.set(r) : o == 1 ? x.cancel(r) : x.release(r));
            }
        }
        for (int lie = 0; lie < 2; lie++) {
            int l = lie;
            none += notTaken(state + ": move of point 1", past, x -> x.move(1, l));
            none += notTaken(state + ": move of point 4", past, x -> x.move(4, l));
        }
        Check.due(state + ": many orders were not taken", none > 15);
    }

    private static int notTaken(String what, Consumer<RailwayHouse> past, ToIntFunction<RailwayHouse> order) {
        RailwayHouse tried = new RailwayHouse();
        past.accept(tried);
        tried.fault(1, 0);
        if (order.applyAsInt(tried) != 0) {
            return 0;
        }
        Twins twins = new Twins(what, past);
        twins.does("no fault", twins.one.channel(1, 1), x -> x.fault(1, 0));
        twins.refuses(what, 0, order).end();
        return 1;
    }
}
