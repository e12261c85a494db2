import java.util.function.Consumer;
import java.util.function.ToIntFunction;

/**
 * The boundary cases of sections 3 REPORTS to 5 THREE CHANNELS and 8 THE DISK and of promises 12 to 22 and 33 to 35,
 * each sentence with a test of its own; behind each order that is not taken all is told as it was.
 */
public final class BoundsHouseTest {
    private static final int MIN = Integer.MIN_VALUE, MAX = Integer.MAX_VALUE;

    /** Two tracks with a crossover: point 4 is the flank of point 1, and the other way round. */
    private static final String CROSS = "plain 9 9;point 1 9;plain 9 9;plain 9 9;point 1 9;plain 9 9;"
            + "join 0 b 1 t;join 1 l 2 a;join 1 r 4 r;join 4 l 3 b;join 4 t 5 a;signal 0 b;signal 3 b;signal 5 a;";

    /** A track for both directions: route 0 goes into 1, 1 into 2, 3, 4, 2 from the other side into 2, 3 into 1, 0. */
    private static final String BOTH_WAYS = "plain 9 9;plain 9 9;plain 9 9;plain 9 9;plain 9 9;"
            + "join 0 b 1 a;join 1 b 2 a;join 2 b 3 a;join 3 b 4 a;signal 0 b;signal 1 b;signal 3 a;signal 2 a;";

    public static void main(String[] args) {
        noReportYet();
        missingReports();
        nothingElseSince();
        lieLikewise();
        reportsOfWhatWasPassed();
        forcedTo();
        ordersInEachPhase();
        heldInEachPhase();
        setWithSomethingOccupied();
        setWithSomethingHeld();
        setWithPointsBound();
        movesOfPoints();
        flanksOfAPointThatIsHeld();
        twelveCyclesCalled();
        onlyFreePointsAreCommanded();
        tenCyclesWaiting();
        twentyCyclesForcedFree();
        fourCyclesOvertime();
        wholeToTheLastSection();
        occupiedAheadOfNotWhole();
        givenBackOneByOne();
        countsByPhase();
        answersOfThreeAndTwo();
        rowsOfThreeAndTwo();
        downTakesNoOrder();
        faultsOfChannels();
        resets();
        unknownRoutes();
        holders();
        diskWithNothing();
        powerOnAndOff();
        diskHoldsWhatWasSynced();
        diskHoldsWhatWasGivenBack();
        Check.end("BoundsHouseTest");
    }

    private static Consumer<RailwayHouse> ticked(String layout) {
        return x -> {
            Check.load(x, layout);
            x.tick(1);
        };
    }

    private static RailwayHouse house(Consumer<RailwayHouse> past) {
        RailwayHouse x = new RailwayHouse();
        past.accept(x);
        return x;
    }

    private static void phase(String what, RailwayHouse x, int route, String due) {
        for (int c = 0; c < 3; c++) {
            Check.dueText(what + ": route " + route + " in channel " + c, Check.routeIn(x, c, route), due);
        }
    }

    /** An order that none of the channels takes changes nothing. */
    private static void notTaken(String what, Consumer<RailwayHouse> past, ToIntFunction<RailwayHouse> order) {
        new Twins(what, past).refuses("the order", 0, order).end();
    }

    private static void taken(String what, Consumer<RailwayHouse> past, ToIntFunction<RailwayHouse> order) {
        Check.due(what, order.applyAsInt(house(past)), 1);
    }

    // ---- section 3 and promises 18, 19

    /** "otherwise OCCUPIED; a point LIES .. otherwise to none": nothing was reported yet */
    private static void noReportYet() {
        RailwayHouse x = Check.house(Check.STATION);
        for (int s = 0; s < 6; s++) {
            Check.due("occupied", x.used(0, s), 1);
            Check.due("lies to none", x.used(1, s), s == 1 || s == 4 ? 2 : Check.UNKNOWN);
        }
        x.force(0, 0, 0);
        Check.due("a forced report comes with a tick", x.used(0, 0), 1);
        x.force(0, 1, -2);
        x.tick(1);
        Check.due("reported", x.used(0, 0), 0);
        Check.due("missing from the first tick on", x.used(0, 1), 1);
        notTaken("nothing is known to be free", h -> Check.load(h, Check.STATION), h -> h.set(0));
        notTaken("nothing is known to be free", h -> Check.load(h, Check.STATION), h -> h.move(1, 1));
    }

    /** "FREE, if 0 was reported in this or one of the two last ticks" */
    private static void missingReports() {
        for (int missing = 0; missing <= 4; missing++) {
            RailwayHouse x = house(ticked(Check.ROW));
            x.force(0, 1, -2);
            for (int i = 0; i < missing; i++) {
                x.tick(1);
            }
            Check.due("free behind " + missing + " ticks without a report", x.used(0, 1), missing <= 2 ? 0 : 1);
            Check.due("set behind " + missing + " ticks without a report", x.set(0), missing <= 2 ? 1 : 0);
            x.force(0, 1, -1);
            x.tick(1);
            Check.due("free again with the first report", x.used(0, 1), 0);
        }
    }

    /** "and nothing else since": 1, 2, 3 take a 0 away, also while the report is missing then */
    private static void nothingElseSince() {
        for (int v = 0; v <= 3; v++) {
            RailwayHouse x = house(ticked(Check.ROW));
            x.force(0, 1, v);
            x.tick(1);
            Check.due("reported " + v, x.used(0, 1), v == 0 ? 0 : 1);
            x.force(0, 1, -2);
            x.tick(1);
            Check.due("missing behind " + v, x.used(0, 1), v == 0 ? 0 : 1);
            x.tick(1);
            Check.due("missing behind " + v, x.used(0, 1), v == 0 ? 0 : 1);
            x.tick(1);
            Check.due("missing for long", x.used(0, 1), 1);
        }
    }

    /** "a point LIES to 0 or 1 likewise, otherwise to none" */
    private static void lieLikewise() {
        for (int v = 0; v <= 3; v++) {
            RailwayHouse x = house(ticked(Check.STATION));
            x.force(1, 1, v);
            x.tick(1);
            for (int missing = 0; missing <= 3; missing++) {
                Check.due("lie " + v + " and missing " + missing, x.used(1, 1), missing <= 2 && v <= 1 ? v : 2);
                x.force(1, 1, -2);
                x.tick(1);
            }
            Check.due("the point itself lies as it did", x.lie(1), 0);
            Check.due("its section is reported for itself", x.used(0, 1), 0);
        }
    }

    /** "whether a train is on it, or was on it when, or while, it MOVED in this tick" */
    private static void reportsOfWhatWasPassed() {
        RailwayHouse x = house(ticked("plain 10 9;plain 1 9;plain 20 9;join 0 b 1 a;join 1 b 2 a;signal 0 b;"));
        x.set(0);
        x.tick(2);
        Check.due("enter", x.enter(0, 1, 9, 5, 1), 0);
        Check.due("no tick, no report", x.used(0, 0), 0);
        x.tick(4);
        Check.due("at the end of its section", x.train(0, 1), 10);
        Check.due("only that one", x.used(0, 1), 0);
        x.tick(1);
        Check.due("behind the short one", x.train(0, 0), 2);
        Check.due("it is not on it", x.trainOn(1), Check.NONE);
        Check.due("where it was when it moved", x.used(0, 0), 1);
        Check.due("where it was while it moved", x.used(0, 1), 1);
        Check.due("where it is", x.used(0, 2), 1);
        x.tick(1);
        Check.due("no more", x.used(0, 0), 0);
        Check.due("no more", x.used(0, 1), 0);
    }

    /** "v (0 to 3), missing (-2), or what it is (-1): 1. UNKNOWN: also a SECTION that is no point; OUTSIDE: the kind, v." */
    private static void forcedTo() {
        Twins twins = new Twins("force", ticked(Check.STATION));
        for (int v = -2; v <= 3; v++) {
            int value = v;
            twins.does("force of a section to " + v, 1, x -> x.force(0, 5, value));
            twins.does("force of a point to " + v, 1, x -> x.force(1, 4, value));
        }
        for (int v : new int[] {MIN, -3, 4, MAX}) {
            twins.refuses("force to " + v, Check.OUTSIDE, x -> x.force(0, 0, v));
            twins.refuses("force to " + v, Check.OUTSIDE, x -> x.force(1, 1, v));
            twins.refuses("force of none to " + v, Check.UNKNOWN, x -> x.force(0, 6, v));
            twins.refuses("force of no point to " + v, Check.UNKNOWN, x -> x.force(1, 0, v));
        }
        for (int kind : new int[] {MIN, -1, 2, MAX}) {
            twins.refuses("force of kind " + kind, Check.OUTSIDE, x -> x.force(kind, 1, 0));
            twins.refuses("used of kind " + kind, Check.OUTSIDE, x -> x.used(kind, 1));
            twins.refuses("force of kind " + kind, Check.UNKNOWN, x -> x.force(kind, 6, 0));
            twins.refuses("used of kind " + kind, Check.UNKNOWN, x -> x.used(kind, -1));
        }
        for (int section : new int[] {MIN, -1, 6, 24, MAX}) {
            twins.refuses("force", Check.UNKNOWN, x -> x.force(0, section, 0));
            twins.refuses("force", Check.UNKNOWN, x -> x.force(1, section, 0));
            twins.refuses("used", Check.UNKNOWN, x -> x.used(0, section));
            twins.refuses("used", Check.UNKNOWN, x -> x.used(1, section));
        }
        twins.refuses("used of no point", Check.UNKNOWN, x -> x.used(1, 5));
        twins.end();
        RailwayHouse x = house(ticked(Check.ROW));
        x.force(0, 0, 1);
        x.force(0, 0, -1);
        x.tick(1);
        Check.due("what it is: the latest force counts", x.used(0, 0), 0);
    }

    // ---- section 4: orders and phases

    private static final int BARRED = 8;

    /** Route 0 of the station in a phase, or in PHASE 2 and BARRED. */
    private static Consumer<RailwayHouse> inPhase(int phase) {
        return x -> {
            ticked(Check.STATION).accept(x);
            if (phase > 0) {
                x.set(0);
            }
            if (phase > 1) {
                x.tick(phase == 2 ? 1 : 2);
            }
            if (phase == 4 || phase == 7) {
                x.force(0, 1, 1);
                x.tick(1);
            }
            if (phase == 5) {
                x.cancel(0);
            }
            if (phase == 6) {
                x.release(0);
            }
            if (phase == 7) {
                x.force(0, 1, 0);
                x.force(0, 2, 1);
                x.tick(1);
                x.force(0, 2, 0);
            }
            if (phase == BARRED) {
                x.force(0, 4, 1);
                x.tick(1);
                x.force(0, 4, 0);
                x.tick(1);
            }
        };
    }

    private static final String[] PHASES = {"0 0 0 0 0 0", "1 0 0 0 0 0", "2 0 0 0 0 0", "3 0 0 1 0 0", "4 0 0 1 0 1",
        "5 10 0 1 0 0", "6 20 0 1 0 0", "7 4 0 1 2 3", "2 0 1 1 0 0"};

    /** set(): of PHASE 0, or of 2 and BARRED; "cancel(): of PHASE 1, 2, 3"; "release(): of PHASES 1 to 5, 7" */
    private static void ordersInEachPhase() {
        int[] set = {1, 0, 0, 0, 0, 0, 0, 0, 1};
        int[] cancel = {0, 1, 1, 1, 0, 0, 0, 0, 1};
        int[] release = {0, 1, 1, 1, 1, 1, 0, 1, 1};
        String[] afterSet = {"1 0 0 0 0 0", "", "", "", "", "", "", "", "2 0 0 1 0 0"};
        String[] afterCancel = {"", "0 0 0 0 0 0", "0 0 0 0 0 0", "5 10 0 1 0 0", "", "", "", "", "5 10 1 1 0 0"};
        String[] afterRelease = {"", "6 20 0 0 0 0", "6 20 0 0 0 0", "6 20 0 1 0 0", "6 20 0 1 0 1", "6 20 0 1 0 0", "",
            "6 20 0 1 2 3", "6 20 1 1 0 0"};
        for (int p = 0; p <= BARRED; p++) {
            phase("as meant", house(inPhase(p)), 0, PHASES[p]);
            order("set in phase " + p, p, set[p], x -> x.set(0), afterSet[p]);
            order("cancel in phase " + p, p, cancel[p], x -> x.cancel(0), afterCancel[p]);
            order("release in phase " + p, p, release[p], x -> x.release(0), afterRelease[p]);
            RailwayHouse x = house(inPhase(p));
            int before = x.count(8);
            Check.due("release() that were taken", before + x.release(0), x.count(8));
        }
    }

    private static void order(String what, int p, int due, ToIntFunction<RailwayHouse> order, String after) {
        if (due == 0) {
            notTaken(what, inPhase(p), order);
            return;
        }
        RailwayHouse x = house(inPhase(p));
        Check.due(what, order.applyAsInt(x), 1);
        phase(what, x, 0, after);
    }

    /** "It HOLDS, in PHASES 1 to 6, its SECTIONS .. and its OVERLAP; in 7 its OVERLAP alone. It BINDS its NEEDS" */
    private static void heldInEachPhase() {
        for (int p = 0; p <= BARRED; p++) {
            RailwayHouse x = house(inPhase(p));
            int sections = p == 0 || p == 7 ? Check.NONE : 0;
            Check.due("section in phase " + p, x.holder(1), sections);
            Check.due("section in phase " + p, x.holder(2), sections);
            Check.due("overlap in phase " + p, x.holder(4), p == 0 ? Check.NONE : 0);
            Check.due("none of its own in phase " + p, x.holder(3), Check.NONE);
            x.force(0, 1, 0);
            x.force(0, 2, 0);
            Check.due("its point in phase " + p, x.move(1, 1), sections == 0 ? 0 : 1);
            Check.due("its overlap's point in phase " + p, x.move(4, 0), p == 0 ? 1 : 0);
        }
        RailwayHouse x = house(inPhase(7));
        x.release(0);
        Check.due("forced free behind overtime", x.holder(1), Check.NONE);
        Check.due("forced free behind overtime", x.holder(2), Check.NONE);
        Check.due("forced free behind overtime", x.holder(4), 0);
    }

    /** "all its SECTIONS and its OVERLAP are FREE" */
    private static void setWithSomethingOccupied() {
        for (int section = 0; section < 6; section++) {
            int s = section;
            Consumer<RailwayHouse> past = ticked(Check.STATION).andThen(x -> x.force(0, s, 1)).andThen(x -> x.tick(1));
            if (s == 1 || s == 2 || s == 4) {
                notTaken("set with " + s + " occupied", past, x -> x.set(0));
            } else {
                taken("set with " + s + " occupied", past, x -> x.set(0));
            }
        }
    }

    /** "no other ROUTE HOLDS one of its SECTIONS (as an OVERLAP one may ..), or its OVERLAP as a SECTION" */
    private static void setWithSomethingHeld() {
        Consumer<RailwayHouse> free = ticked(BOTH_WAYS);
        RailwayHouse told = house(free);
        Check.due("routes", told.count(2), 4);
        Check.due("overlap of route 0", told.route(0, 3), 2);
        Check.due("overlap of route 2", told.route(2, 3), 1);
        notTaken("a section is another one's", free.andThen(x -> x.set(1)), x -> x.set(2));
        notTaken("its overlap is another one's section", free.andThen(x -> x.set(1)), x -> x.set(0));
        notTaken("its section is another one's, its overlap too", free.andThen(x -> x.set(0)), x -> x.set(2));
        taken("an overlap of one whose last signal is its signal", free.andThen(x -> x.set(0)), x -> x.set(1));
        // Route 0 in overtime holds its overlap, section 2, alone.
        Consumer<RailwayHouse> overtime = free.andThen(x -> x.set(0)).andThen(x -> x.tick(2)).andThen(x -> x.force(0, 1, 1))
                .andThen(x -> x.tick(1)).andThen(x -> x.force(0, 1, 0)).andThen(x -> x.tick(1));
        phase("overtime", house(overtime), 0, "7 3 0 1 1 1");
        notTaken("its section is the overlap of one with another last signal", overtime, x -> x.set(2));
        taken("its section is the overlap of one with its signal", overtime, x -> x.set(1));
        taken("its section is nobody's any more", overtime, x -> x.set(3));
        taken("then that overlap is nobody's", overtime.andThen(x -> x.tick(3)), x -> x.set(2));
        // Two tracks that end ahead of one plain section, from both sides.
        taken("an overlap of both", ticked("plain 9 9;plain 9 9;plain 9 9;plain 9 9;plain 9 9;join 0 b 2 a;join 1 b 3 a;"
                + "join 2 b 4 a;join 3 b 4 b;signal 0 b;signal 1 b;signal 2 b;signal 3 b;").andThen(x -> x.set(0)),
                x -> x.set(1));
    }

    /** "each point that it NEEDS is not bound by another ROUTE to the other lie, and LIES so, or else .." */
    private static void setWithPointsBound() {
        Consumer<RailwayHouse> cross = ticked(CROSS);
        Consumer<RailwayHouse> across = cross.andThen(x -> x.move(4, 1)).andThen(x -> x.tick(6));
        Check.due("the flank lies otherwise", house(across).used(1, 4), 1);
        taken("bound to the same lie, in which it lies", cross.andThen(x -> x.set(0)), x -> x.set(2));
        notTaken("bound to the other lie", cross.andThen(x -> x.set(0)), x -> x.set(4));
        taken("lies so, and is occupied", cross.andThen(x -> x.force(0, 4, 1)).andThen(x -> x.tick(1)), x -> x.set(0));
        taken("must move, is free and nobody's", across, x -> x.set(0));
        notTaken("must move, and is occupied", across.andThen(x -> x.force(0, 4, 1)).andThen(x -> x.tick(1)), x -> x.set(0));
        notTaken("must move, and is bound", across.andThen(x -> x.set(0)), x -> x.set(2));
        taken("bound, and lies so by now", across.andThen(x -> x.set(0)).andThen(x -> x.tick(6)), x -> x.set(2));
        // Route 2 in overtime would have an overlap; the crossing's own sections are held as sections.
        notTaken("a point that another one holds", cross.andThen(x -> x.set(3)), x -> x.set(1));
        // A point that lies to none by its reports is one that must move.
        Consumer<RailwayHouse> none = cross.andThen(x -> x.force(1, 4, 2)).andThen(x -> x.tick(1));
        taken("lies to none, and is free", none, x -> x.set(0));
        notTaken("lies to none, and is occupied", none.andThen(x -> x.force(0, 4, 1)).andThen(x -> x.tick(1)), x -> x.set(0));
    }

    /** "move(): a point's SECTION is FREE, and no ROUTE HOLDS or binds it"; "UNKNOWN: also .. no point; OUTSIDE: the lie." */
    private static void movesOfPoints() {
        Consumer<RailwayHouse> cross = ticked(CROSS);
        taken("to 0", cross, x -> x.move(4, 0));
        taken("to 1", cross, x -> x.move(4, 1));
        notTaken("occupied", cross.andThen(x -> x.force(0, 4, 3)).andThen(x -> x.tick(1)), x -> x.move(4, 1));
        notTaken("held", cross.andThen(x -> x.set(0)), x -> x.move(1, 0));
        notTaken("bound as a flank", cross.andThen(x -> x.set(0)), x -> x.move(4, 0));
        notTaken("bound as a flank", cross.andThen(x -> x.set(0)), x -> x.move(4, 1));
        notTaken("held as an overlap come into by t", ticked("plain 1 1;plain 1 1;point 1 1;join 0 b 1 a;join 1 b 2 t;"
                + "signal 0 b;signal 1 b;").andThen(x -> x.set(0)), x -> x.move(2, 1));
        Twins twins = new Twins("move", cross);
        for (int lie : new int[] {MIN, -1, 2, MAX}) {
            twins.refuses("move to " + lie, Check.OUTSIDE, x -> x.move(1, lie));
            twins.refuses("move of no point to " + lie, Check.UNKNOWN, x -> x.move(0, lie));
            twins.refuses("move of nothing to " + lie, Check.UNKNOWN, x -> x.move(6, lie));
        }
        for (int point : new int[] {MIN, -1, 0, 2, 5, 6, 24, MAX}) {
            twins.refuses("move of " + point, Check.UNKNOWN, x -> x.move(point, 0));
        }
        twins.end();
    }

    /** "those of a point of its own, and FLANKS of it, as long as it HOLDS that point's SECTION" */
    private static void flanksOfAPointThatIsHeld() {
        Consumer<RailwayHouse> used = ticked("plain 9 9;point 1 9;plain 9 9;plain 9 9;point 1 9;"
                + "join 0 b 1 t;join 1 l 2 a;join 2 b 3 a;join 1 r 4 r;signal 0 b;").andThen(x -> {
                    x.set(0);
                    x.tick(2);
                    x.force(0, 1, 1);
                    x.tick(1);
                    x.force(0, 1, 0);
                    x.tick(1);
                });
        phase("the point is held", house(used), 0, "4 0 0 1 0 1");
        notTaken("its own point", used, x -> x.move(1, 1));
        notTaken("its flank", used, x -> x.move(4, 1));
        Consumer<RailwayHouse> left = used.andThen(x -> x.force(0, 2, 1)).andThen(x -> x.tick(1));
        phase("the point is given back", house(left), 0, "4 0 0 1 1 3");
        taken("its own point", left, x -> x.move(1, 1));
        taken("its flank", left, x -> x.move(4, 1));
    }

    // ---- section 4: the cycle's counts

    /** "else COUNT is one more; with 12 it is PHASE 0" */
    private static void twelveCyclesCalled() {
        RailwayHouse x = house(ticked(Check.STATION));
        x.block(1, true);
        Check.due("set", x.set(1), 1);
        for (int count = 1; count <= 11; count++) {
            x.tick(1);
            phase("called", x, 1, "1 " + count + " 0 0 0 0");
        }
        x.tick(1);
        phase("in vain", x, 1, "0 0 0 0 0 0");
        Check.due("held no more", x.holder(1), Check.NONE);
        // With the points there in the 12th cycle it is PHASE 2.
        RailwayHouse y = house(ticked(Check.STATION));
        y.block(1, true);
        y.set(1);
        y.tick(11);
        y.block(1, false);
        y.tick(1);
        phase("in time", y, 1, "2 0 0 0 0 0");
    }

    /** "each point that does not lie so, and whose SECTION is FREE, is COMMANDED" */
    private static void onlyFreePointsAreCommanded() {
        RailwayHouse x = house(ticked(Check.STATION));
        x.set(1);
        x.force(0, 4, 1);
        x.tick(5);
        Check.due("the free one", x.lie(1), 1);
        Check.due("the occupied one", x.lie(4), 0);
        x.force(0, 4, 0);
        x.tick(5);
        Check.due("when it is free", x.lie(4), 1);
        phase("set then", x, 1, "2 0 0 0 0 0");
    }

    /** "PHASE 5, COUNT 10"; "COUNT is one less, with 0 PHASE 0" */
    private static void tenCyclesWaiting() {
        RailwayHouse x = house(inPhase(5));
        for (int count = 9; count >= 1; count--) {
            x.tick(1);
            phase("waiting", x, 0, "5 " + count + " 0 1 0 0");
        }
        x.tick(1);
        phase("waited", x, 0, "0 0 0 0 0 0");
        RailwayHouse y = house(inPhase(5));
        y.tick(9);
        y.force(0, 1, 1);
        y.tick(1);
        phase("used in the last cycle", y, 0, "4 0 0 1 0 1");
        RailwayHouse z = house(inPhase(5));
        z.force(0, 2, 1);
        z.force(0, 4, 1);
        z.tick(10);
        phase("another section than the first is no matter", z, 0, "0 0 0 0 0 0");
    }

    /** "PHASE 6, COUNT 20" */
    private static void twentyCyclesForcedFree() {
        RailwayHouse x = house(inPhase(6));
        x.force(0, 1, 1);
        for (int count = 19; count >= 1; count--) {
            x.tick(1);
            phase("forced free", x, 0, "6 " + count + " 0 1 0 0");
        }
        Check.due("held to the last", x.holder(1), 0);
        x.tick(1);
        phase("free", x, 0, "0 0 0 0 0 0");
    }

    /** "When all are: PHASE 7, COUNT 4, with an OVERLAP, else PHASE 0." */
    private static void fourCyclesOvertime() {
        RailwayHouse x = house(inPhase(7));
        for (int count = 3; count >= 1; count--) {
            x.tick(1);
            phase("overtime", x, 0, "7 " + count + " 0 1 2 3");
            Check.due("the overlap is held", x.holder(4), 0);
        }
        x.tick(1);
        phase("over", x, 0, "0 0 0 0 0 0");
        Check.due("the overlap is held no more", x.holder(4), Check.NONE);
        RailwayHouse border = house(ticked(Check.STATION));
        border.set(2);
        border.tick(2);
        border.force(0, 4, 1);
        border.tick(1);
        border.force(0, 4, 0);
        border.force(0, 5, 1);
        border.tick(1);
        phase("without an overlap", border, 2, "0 0 0 0 0 0");
    }

    /** "It is WHOLE, if all its SECTIONS and its OVERLAP are FREE, and all points LIE as it NEEDS." */
    private static void wholeToTheLastSection() {
        for (int section = 0; section < 6; section++) {
            RailwayHouse x = house(inPhase(2));
            x.force(0, section, 1);
            x.tick(2);
            boolean whole = section == 0 || section == 3 || section == 5;
            phase("with " + section + " occupied", x, 0, whole ? "3 0 0 1 0 0" : "2 0 0 0 0 0");
            Check.due("signal with " + section + " occupied", x.signal(0, 2), whole ? 1 : 0);
            x.force(0, section, 0);
            x.tick(1);
            phase("free again", x, 0, "3 0 0 1 0 0");
        }
        for (int lie = 0; lie <= 3; lie++) {
            for (int point = 1; point <= 4; point += 3) {
                RailwayHouse x = house(inPhase(2));
                x.force(1, point, lie);
                x.tick(1);
                phase("with " + point + " reported as " + lie, x, 0, lie == 0 ? "3 0 0 1 0 0" : "2 0 0 0 0 0");
            }
        }
    }

    /** "3: its first SECTION is OCCUPIED: PHASE 4 ..; else not WHOLE: PHASE 2, BARRED" */
    private static void occupiedAheadOfNotWhole() {
        for (int section : new int[] {2, 4}) {
            RailwayHouse x = house(inPhase(3));
            x.force(0, section, 1);
            x.tick(1);
            phase("not whole", x, 0, "2 0 1 1 0 0");
            RailwayHouse y = house(inPhase(3));
            y.force(0, section, 1);
            y.force(0, 1, 1);
            y.tick(1);
            phase("used", y, 0, section == 2 ? "4 0 0 1 0 3" : "4 0 0 1 0 1");
        }
    }

    /** "it was SEEN, and is FREE, and the next one was SEEN; the last one: it was SEEN" */
    private static void givenBackOneByOne() {
        Consumer<RailwayHouse> three = ticked("plain 9 9;plain 9 9;plain 9 9;plain 9 9;plain 9 9;join 0 b 1 a;join 1 b 2 a;"
                + "join 2 b 3 a;join 3 b 4 a;signal 0 b;signal 3 b;").andThen(x -> x.set(0)).andThen(x -> x.tick(2));
        RailwayHouse x = house(three);
        x.force(0, 1, 1);
        x.tick(1);
        phase("seen and occupied", x, 0, "4 0 0 1 0 1");
        x.force(0, 1, 0);
        x.tick(1);
        phase("seen and free, the next one not seen", x, 0, "4 0 0 1 0 1");
        x.force(0, 2, 1);
        x.tick(1);
        phase("the next one seen", x, 0, "4 0 0 1 1 3");
        x.force(0, 2, 0);
        x.tick(1);
        phase("the next one but one not seen", x, 0, "4 0 0 1 1 3");
        x.force(0, 3, 1);
        x.tick(1);
        phase("all, as long as it may be", x, 0, "7 4 0 1 3 7");
        RailwayHouse y = house(three);
        y.force(0, 1, 1);
        y.force(0, 2, 1);
        y.force(0, 3, 1);
        y.tick(1);
        phase("all seen, the first occupied", y, 0, "4 0 0 1 0 7");
        y.force(0, 1, 0);
        y.tick(1);
        phase("the first one free", y, 0, "4 0 0 1 1 7");
        y.force(0, 1, 1);
        y.tick(1);
        phase("what was given back is not held again", y, 0, "4 0 0 1 1 7");
        Check.due("not held", y.holder(1), Check.NONE);
        y.force(0, 2, 0);
        y.force(0, 3, 0);
        y.tick(1);
        phase("the last one was seen", y, 0, "7 4 0 1 3 7");
        RailwayHouse one = house(ticked(Check.ROW));
        one.set(0);
        one.tick(2);
        one.force(0, 1, 1);
        one.tick(1);
        phase("the first one is the last one", one, 0, "7 4 0 1 1 1");
    }

    /** "COUNT (1; 0 in PHASES 0, 2, 3, 4) .. 2 to 5 are 0 in PHASE 0. UNKNOWN; OUTSIDE." */
    private static void countsByPhase() {
        RailwayHouse called = house(ticked(Check.STATION));
        called.set(1);
        called.tick(3);
        Check.due("count", called.routeAt(0, 1, 1), 3);
        called.tick(2);
        Check.due("phase", called.routeAt(0, 1, 0), 2);
        Check.due("count", called.routeAt(0, 1, 1), 0);
        Twins twins = new Twins("routeAt", inPhase(4));
        for (int channel : new int[] {MIN, -1, 3, MAX}) {
            twins.refuses("channel", Check.UNKNOWN, x -> x.routeAt(channel, 0, 0));
            twins.refuses("channel", Check.UNKNOWN, x -> x.routeAt(channel, 0, 6));
        }
        for (int route : new int[] {MIN, -1, 8, MAX}) {
            twins.refuses("route", Check.UNKNOWN, x -> x.routeAt(2, route, 5));
            twins.refuses("route", Check.UNKNOWN, x -> x.routeAt(2, route, -1));
        }
        for (int what : new int[] {MIN, -1, 6, MAX}) {
            twins.refuses("what", Check.OUTSIDE, x -> x.routeAt(2, 7, what));
        }
        twins.does("seen", 1, x -> x.routeAt(2, 0, 5));
        twins.end();
    }

    // ---- section 5 and promises 20 to 22

    private static void voting(String what, RailwayHouse x, String due) {
        Check.dueText(what, "" + x.channel(0, 0) + x.channel(1, 0) + x.channel(2, 0), due);
        Check.due(what + ": down", x.count(6), due.equals("000") ? 1 : 0);
    }

    /** "Of three: the (answer) that two have is voted; who has another one is CUT OFF. Of two: if they are unlike .. DOWN." */
    private static void answersOfThreeAndTwo() {
        for (int deaf = 0; deaf < 8; deaf++) {
            RailwayHouse x = house(ticked(Check.ROW));
            for (int c = 0; c < 3; c++) {
                x.fault(c, (deaf >> c & 1) * 4);
            }
            int many = Integer.bitCount(deaf);
            Check.due("deaf " + deaf, x.set(0), many <= 1 ? 1 : 0);
            voting("deaf " + deaf, x, twoAlike(deaf));
        }
        for (int deaf = 0; deaf < 4; deaf++) {
            RailwayHouse x = house(ticked(Check.ROW));
            x.fault(2, 4);
            x.set(0);
            voting("two are left", x, "110");
            x.fault(0, (deaf & 1) * 4);
            x.fault(1, (deaf >> 1) * 4);
            Check.due("of two, deaf " + deaf, x.set(1), deaf == 0 ? 1 : 0);
            voting("of two, deaf " + deaf, x, deaf == 0 || deaf == 3 ? "110" : "000");
        }
    }

    /** Who is left in the vote of three, if those of a mask are unlike the others: all, or the two alike. */
    private static String twoAlike(int mask) {
        int many = Integer.bitCount(mask);
        int left = many == 1 ? 7 - mask : many == 2 ? mask : 7;
        return "" + (left & 1) + (left >> 1 & 1) + (left >> 2 & 1);
    }

    /** "the ROW that two have is voted .. or of three all are, the house is DOWN" */
    private static void rowsOfThreeAndTwo() {
        for (int wild = 0; wild < 8; wild++) {
            RailwayHouse x = house(ticked(Check.ROW));
            for (int c = 0; c < 3; c++) {
                x.fault(c, (wild >> c & 1) * 2);
            }
            x.tick(1);
            int many = Integer.bitCount(wild);
            voting("wild " + wild, x, twoAlike(wild));
            Check.due("signals with wild " + wild, x.signal(0, 2), many >= 2 ? 1 : 0);
        }
        // Three rows: wild, late, and as it is.
        RailwayHouse x = house(ticked(Check.ROW));
        x.set(0);
        x.fault(0, 2);
        x.fault(1, 5);
        x.tick(1);
        voting("three rows", x, "000");
        Check.due("no signal", x.signal(1, 2), 0);
        // A row tells whether a route is BARRED: a late one does, when the others do not any more.
        RailwayHouse barred = house(inPhase(3));
        barred.force(0, 4, 1);
        barred.tick(2);
        barred.fault(1, 5);
        barred.tick(1);
        voting("barred in all rows", barred, "111");
        Check.due("set", barred.set(0), 1);
        barred.tick(1);
        phase("barred no more", barred, 0, "2 0 0 1 0 0");
        voting("barred in the late row", barred, "101");
        // Two rows, unlike.
        RailwayHouse y = house(ticked(Check.ROW));
        y.fault(0, 2);
        y.tick(1);
        voting("two are left", y, "011");
        y.tick(3);
        voting("two alike", y, "011");
        y.fault(2, 2);
        y.tick(1);
        voting("two unlike", y, "000");
    }

    /** "DOWN: none is in THE VOTE any more, no SIGNAL PROCEEDS, commands stay, no order is taken." */
    private static void downTakesNoOrder() {
        Consumer<RailwayHouse> down = ticked(Check.STATION).andThen(x -> x.set(0)).andThen(x -> x.tick(2))
                .andThen(x -> x.move(1, 1)).andThen(x -> x.fault(0, 4)).andThen(x -> x.set(2))
                .andThen(x -> x.fault(1, 4)).andThen(x -> x.release(2));
        RailwayHouse x = house(down);
        voting("down", x, "000");
        Check.due("no signal", x.signal(0, 2), 0);
        for (int route = 0; route < 8; route++) {
            int r = route;
            notTaken("set when down", down, h -> h.set(r));
            notTaken("cancel when down", down, h -> h.cancel(r));
            notTaken("release when down", down, h -> h.release(r));
        }
        notTaken("move when down", down, h -> h.move(1, 1));
        notTaken("move when down", down, h -> h.move(4, 0));
        new Twins("down", down).refuses("move", Check.UNKNOWN, h -> h.move(0, 0))
                .refuses("move", Check.OUTSIDE, h -> h.move(1, 2)).refuses("set", Check.UNKNOWN, h -> h.set(8))
                .refuses("sync", Check.STATE, h -> h.sync()).end();
        x.tick(5);
        Check.due("no cycle", x.routeAt(2, 0, 0), 3);
        Check.due("time goes on", x.count(3), 8);
    }

    /** "A channel has a FAULT (0 to 5) from now on: which it had. UNKNOWN; OUTSIDE." */
    private static void faultsOfChannels() {
        Twins twins = new Twins("fault", ticked(Check.ROW));
        for (int c = 0; c < 3; c++) {
            int channel = c;
            for (int kind = 1; kind <= 5; kind++) {
                int k = kind;
                twins.does("fault", k - 1, x -> x.fault(channel, k));
                twins.does("fault", k, x -> x.channel(channel, 1));
            }
            twins.does("fault", 5, x -> x.fault(channel, 0));
            twins.does("fault", 0, x -> x.fault(channel, 0));
        }
        for (int channel : new int[] {MIN, -1, 3, MAX}) {
            twins.refuses("fault", Check.UNKNOWN, x -> x.fault(channel, 1));
            twins.refuses("fault", Check.UNKNOWN, x -> x.fault(channel, 6));
            twins.refuses("channel", Check.UNKNOWN, x -> x.channel(channel, 0));
            twins.refuses("channel", Check.UNKNOWN, x -> x.channel(channel, 2));
        }
        for (int number : new int[] {MIN, -1, 6, MAX}) {
            twins.refuses("fault", Check.OUTSIDE, x -> x.fault(2, number));
        }
        for (int what : new int[] {MIN, -1, 2, MAX}) {
            twins.refuses("channel", Check.OUTSIDE, x -> x.channel(0, what));
        }
        twins.end();
        RailwayHouse x = house(ticked(Check.ROW));
        x.fault(0, 2);
        x.tick(1);
        Check.due("one that is cut off has its fault", x.fault(0, 3), 2);
        Check.due("and another one then", x.channel(0, 1), 3);
    }

    /** "STATE: none is CUT OFF, and it is not DOWN; power is CUT; DOWN, and a train's SPEED is above 0." */
    private static void resets() {
        Consumer<RailwayHouse> all = ticked(Check.ROW);
        new Twins("none is cut off", all).refuses("reset", Check.STATE, x -> x.reset()).end();
        new Twins("no layout", x -> { }).refuses("reset", Check.STATE, x -> x.reset()).end();
        Consumer<RailwayHouse> cutOff = all.andThen(x -> x.fault(1, 2)).andThen(x -> x.tick(1));
        Check.due("one is cut off", house(cutOff).reset(), 1);
        new Twins("power is cut", cutOff.andThen(x -> x.cut())).refuses("reset", Check.STATE, x -> x.reset()).end();
        Consumer<RailwayHouse> going = all.andThen(x -> x.enter(0, 1, 5, 1, 7)).andThen(x -> x.tick(1));
        Check.due("a train goes, and it is not down", house(going.andThen(x -> x.fault(1, 2)).andThen(x -> x.tick(1))).reset(), 1);
        // It becomes what the first one in the vote is, its row too: still or late then, it is like the others.
        for (int fault : new int[] {1, 5}) {
            RailwayHouse becomes = house(cutOff.andThen(x -> x.set(0)).andThen(x -> x.tick(3)));
            Check.due("reset", becomes.reset(), 1);
            phase("as the first one", becomes, 0, "3 0 0 1 0 0");
            becomes.fault(1, fault);
            becomes.tick(1);
            voting("as the first one", becomes, "111");
            becomes.force(0, 1, 1);
            becomes.tick(1);
            voting("then it is still, or late", becomes, "101");
        }
        Consumer<RailwayHouse> down = x -> {
            x.fault(0, 4);
            x.set(2);
            x.fault(1, 4);
            x.release(2);
        };
        Check.due("down", house(all.andThen(down)).count(6), 1);
        Check.due("down without a train", house(all.andThen(down)).reset(), 1);
        new Twins("down, and a train goes", going.andThen(down)).refuses("reset", Check.STATE, x -> x.reset()).end();
        new Twins("down without power", all.andThen(down).andThen(x -> x.cut())).refuses("reset", Check.STATE, x -> x.reset()).end();
        RailwayHouse x = house(going.andThen(down));
        Check.due("speed", x.train(0, 2), 1);
        x.stand(0, true);
        Check.due("a speed of 1 is above 0", x.reset(), Check.STATE);
        x.tick(1);
        Check.due("speed", x.train(0, 2), 0);
        Check.due("it stands", x.reset(), 1);
        voting("reset", x, "111");
        Check.due("reset again", x.reset(), Check.STATE);
    }

    // ---- promises 12 to 14 and 17

    private static void unknownRoutes() {
        Twins twins = new Twins("orders", inPhase(3));
        for (int route : new int[] {MIN, -1, 8, 40, MAX}) {
            twins.refuses("set", Check.UNKNOWN, x -> x.set(route));
            twins.refuses("cancel", Check.UNKNOWN, x -> x.cancel(route));
            twins.refuses("release", Check.UNKNOWN, x -> x.release(route));
        }
        twins.end();
        RailwayHouse x = house(ticked(Check.STATION));
        Check.due("the first route", x.set(0), 1);
        Check.due("the last route", x.cancel(7), 0);
    }

    /** "The first ROUTE of THE HOUSE that HOLDS a SECTION; NONE. UNKNOWN." */
    private static void holders() {
        Twins twins = new Twins("holder", inPhase(3).andThen(x -> x.set(2)));
        twins.does("two hold it", 0, x -> x.holder(4));
        twins.does("one holds it", 2, x -> x.holder(5));
        twins.does("nobody holds it", Check.NONE, x -> x.holder(0));
        for (int section : new int[] {MIN, -1, 6, 24, MAX}) {
            twins.refuses("holder", Check.UNKNOWN, x -> x.holder(section));
        }
        twins.end();
    }

    // ---- section 8 and promises 33 to 35

    private static void diskWithNothing() {
        RailwayHouse x = house(inPhase(3));
        Check.due("cut", x.cut(), 1);
        Check.due("never synced", x.start(), 0);
        phase("never synced", x, 0, "0 0 0 0 0 0");
        Check.due("synced with nothing", x.sync(), 0);
        Check.due("cut", x.cut(), 1);
        Check.due("start", x.start(), 0);
        RailwayHouse none = new RailwayHouse();
        Check.due("without a layout", none.sync(), 0);
        Check.due("without a layout", none.cut(), 1);
        Check.due("without a layout", none.sync(), Check.STATE);
        Check.due("without a layout", none.start(), 0);
    }

    /** "STATE: power is CUT, or DOWN." "STATE: it is." "STATE: power is not CUT." */
    private static void powerOnAndOff() {
        Consumer<RailwayHouse> on = inPhase(3).andThen(x -> x.sync());
        new Twins("power is there", on).refuses("start", Check.STATE, x -> x.start()).end();
        Consumer<RailwayHouse> off = on.andThen(x -> x.cut());
        new Twins("power is cut", off).refuses("cut", Check.STATE, x -> x.cut())
                .refuses("sync", Check.STATE, x -> x.sync()).refuses("reset", Check.STATE, x -> x.reset()).end();
        for (int route = 0; route < 8; route++) {
            int r = route;
            notTaken("set without power", off, x -> x.set(r));
            notTaken("cancel without power", off, x -> x.cancel(r));
            notTaken("release without power", off, x -> x.release(r));
        }
        notTaken("move without power", off, x -> x.move(1, 0));
        RailwayHouse x = house(off);
        Check.due("no signal", x.signal(0, 2), 0);
        x.tick(50);
        Check.due("the channels do nothing", x.routeAt(0, 0, 0), 3);
        Check.due("they are in the vote", x.channel(0, 0), 1);
        Check.due("start", x.start(), 1);
        Check.due("start", x.start(), Check.STATE);
    }

    /** "PHASES 1, 2, 3, 5 have PHASE 2, are BARRED and SHOWN; those with 4, 6, 7 have that (COUNT 0, 20, 4), are SHOWN" */
    private static void diskHoldsWhatWasSynced() {
        String[] back = {"0 0 0 0 0 0", "2 0 1 1 0 0", "2 0 1 1 0 0", "2 0 1 1 0 0", "4 0 0 1 0 1", "2 0 1 1 0 0",
            "6 20 0 1 0 0", "7 4 0 1 2 3", "2 0 1 1 0 0"};
        for (int p = 0; p <= BARRED; p++) {
            RailwayHouse x = house(inPhase(p));
            Check.due("sync in phase " + p, x.sync(), p == 0 ? 0 : 1);
            x.cut();
            Check.due("start behind phase " + p, x.start(), p == 0 ? 0 : 1);
            phase("behind phase " + p, x, 0, back[p]);
            Check.due("no report has come", x.used(0, 0), 1);
            Check.due("no report has come", x.used(1, 1), 2);
            x.cut();
            Check.due("the disk holds it still", x.start(), p == 0 ? 0 : 1);
            phase("behind phase " + p, x, 0, back[p]);
        }
        RailwayHouse all = house(ticked(Check.ROW));
        all.set(0);
        all.set(1);
        all.set(2);
        Check.due("all routes", all.sync(), 3);
    }

    /** "what was given back and SEEN is as it holds" */
    private static void diskHoldsWhatWasGivenBack() {
        for (int k = 0; k < 8; k++) {
            String due = k < 7 ? "4 0 0 1 " + k + " " + ((2 << k) - 1) : "7 4 0 1 8 255";
            RailwayHouse x = house(gone(k));
            phase("given back", x, 0, due);
            Check.due("sync", x.sync(), 1);
            x.cut();
            Check.due("start", x.start(), 1);
            phase("given back, from the disk", x, 0, due);
            RailwayHouse y = house(gone(k));
            y.release(0);
            y.sync();
            y.cut();
            y.start();
            phase("forced free, from the disk", y, 0, "6 20" + due.substring(3));
            Check.due("held", y.holder(k), Check.NONE);
            Check.due("held", y.holder(8), k < 7 ? 0 : Check.NONE);
            Check.due("overlap", y.holder(9), 0);
        }
    }

    /** A route of eight sections, of which a train has left the first k. */
    private static Consumer<RailwayHouse> gone(int k) {
        StringBuilder eight = new StringBuilder("plain 1 1;".repeat(10));
        for (int i = 1; i < 10; i++) {
            eight.append("join ").append(i - 1).append(" b ").append(i).append(" a;");
        }
        return ticked(eight + "signal 0 b;signal 8 b;").andThen(x -> {
            x.set(0);
            x.tick(2);
            for (int i = 0; i <= k; i++) {
                x.force(0, i, 0);
                x.force(0, i + 1, 1);
                x.tick(1);
            }
        });
    }
}
