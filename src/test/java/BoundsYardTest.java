import java.util.function.Consumer;

/**
 * The boundary cases of sections 6 THE YARD and 7 A TICK and of promises 23 to 32, each sentence with a test of its
 * own; behind each refused call all is told as it was.
 */
public final class BoundsYardTest {
    private static final int MIN = Integer.MIN_VALUE, MAX = Integer.MAX_VALUE;

    public static void main(String[] args) {
        threeTicksToNone();
        backAgain();
        lyingAnew();
        blockedPoints();
        pointsThatThereAreNot();
        numbersOfTrains();
        sectionsToComeInBy();
        sectionsTakenAlready();
        eightInTheYard();
        twoHundredInAll();
        frontAtAnEnd();
        goneWithAllOfIt();
        leaveUpToTheFirstEnd();
        leaveThatEndsNowhere();
        fasterByOne();
        slowerByTheBrake();
        safeUpToItsLeave();
        limitsFromRearToFront();
        limitsOfBrakingMoves();
        madeToStand();
        standsAtAPoint();
        passedSignals();
        tellTrains();
        trainsOnSections();
        ticks();
        timeOfATick();
        orderOfATick();
        numbersInBerths();
        lostNumbers();
        numbersGoOn();
        audits();
        Check.end("BoundsYardTest");
    }

    private static Consumer<RailwayHouse> ticked(String layout) {
        return x -> {
            Check.load(x, layout);
            x.tick(1);
        };
    }

    private static RailwayHouse house(Consumer<RailwayHouse> past) {
        RailwayHouse x = new RailwayHouse();
        past.accept(x);
        return x;
    }

    /** A house whose route 0 is clear. */
    private static RailwayHouse clear(String layout) {
        RailwayHouse x = house(ticked(layout));
        Check.due("set", x.set(0), 1);
        x.tick(2);
        Check.due("clear", x.signal(0, 2), 1);
        return x;
    }

    private static void wild(RailwayHouse x) {
        for (int c = 0; c < 3; c++) {
            x.fault(c, 2);
        }
        x.tick(1);
    }

    /** Section, place and speed of a train, tick by tick. */
    private static void goes(String what, RailwayHouse x, int train, String... due) {
        for (int i = 0; i < due.length; i++) {
            x.tick(1);
            Check.dueText(what + ", tick " + (i + 1), x.train(train, 0) + " " + x.train(train, 1) + " " + x.train(train, 2), due[i]);
        }
    }

    // ---- points

    /** "If, as a tick begins, it is COMMANDED to what it neither lies nor goes to .. it lies to none for 3 ticks, that one the first" */
    private static void threeTicksToNone() {
        RailwayHouse x = house(ticked(Check.STATION));
        Check.due("at first", x.lie(1), 0);
        x.move(1, 1);
        int[] due = {0, 2, 2, 2, 1, 1, 1};
        for (int i = 0; i < due.length; i++) {
            x.tick(1);
            Check.due("lie, tick " + (i + 1), x.lie(1), due[i]);
            Check.due("the other one", x.lie(4), 0);
        }
        x.move(1, 1);
        x.tick(3);
        Check.due("it is not told to go where it lies", x.lie(1), 1);
        x.move(1, 0);
        int[] back = {1, 2, 2, 2, 0};
        for (int i = 0; i < back.length; i++) {
            x.tick(1);
            Check.due("back, tick " + (i + 1), x.lie(1), back[i]);
        }
    }

    private static void backAgain() {
        RailwayHouse x = house(ticked(Check.STATION));
        x.move(1, 1);
        x.tick(2);
        x.move(1, 1);
        x.tick(3);
        Check.due("told again where it goes to: no longer", x.lie(1), 1);
        RailwayHouse y = house(ticked(Check.STATION));
        y.move(1, 1);
        y.tick(2);
        y.move(1, 0);
        int[] due = {2, 2, 2, 2, 0};
        for (int i = 0; i < due.length; i++) {
            y.tick(1);
            Check.due("to where it came from, tick " + (i + 1), y.lie(1), due[i]);
        }
    }

    /** "A point lies to 0 at first": behind a load() too, wherever it lay or went to, and nothing commands it. */
    private static void lyingAnew() {
        for (int ticks = 1; ticks <= 6; ticks++) {
            RailwayHouse x = house(ticked("point 1 1;plain 1 1;point 1 1;"));
            x.move(0, 1);
            x.move(2, 1);
            x.block(2, true);
            x.tick(ticks);
            Check.load(x, "point 1 1;point 1 1;point 1 1;");
            for (int i = 0; i < 7; i++) {
                for (int point = 0; point < 3; point++) {
                    Check.due("lie of " + point + " behind a load, tick " + i, x.lie(point), 0);
                }
                x.tick(1);
            }
            Check.due("not blocked", x.block(2, false), 0);
        }
    }

    /** "One that is BLOCKED goes on, but comes there only when it is not any more (in the first tick then)." */
    private static void blockedPoints() {
        for (int ticks = 1; ticks <= 9; ticks++) {
            RailwayHouse x = house(ticked(Check.STATION));
            Check.due("block", x.block(1, true), 0);
            x.move(1, 1);
            for (int i = 0; i < ticks; i++) {
                x.tick(1);
            }
            Check.due("lie of a blocked one", x.lie(1), ticks == 1 ? 0 : 2);
            Check.due("block", x.block(1, false), 1);
            for (int i = ticks; i < 4; i++) {
                x.tick(1);
                Check.due("not before its time", x.lie(1), i == 0 ? 0 : 2);
            }
            x.tick(1);
            Check.due("in the first tick then", x.lie(1), 1);
        }
        RailwayHouse x = house(ticked(Check.STATION));
        x.block(1, true);
        x.tick(5);
        Check.due("one that lies, lies", x.lie(1), 0);
    }

    private static void pointsThatThereAreNot() {
        Twins twins = new Twins("points", ticked(Check.STATION));
        twins.does("block", 0, x -> x.block(4, true));
        twins.does("block again", 1, x -> x.block(4, true));
        twins.does("no more", 1, x -> x.block(4, false));
        twins.does("no more", 0, x -> x.block(4, false));
        for (int point : new int[] {MIN, -1, 0, 2, 3, 5, 6, 24, MAX}) {
            twins.refuses("lie of " + point, Check.UNKNOWN, x -> x.lie(point));
            twins.refuses("block of " + point, Check.UNKNOWN, x -> x.block(point, true));
            twins.refuses("block of " + point, Check.UNKNOWN, x -> x.block(point, false));
        }
        twins.end();
    }

    // ---- trains come in

    /** "a length (1 to 30), SPEED, a greatest speed (1 to 9), a BRAKE (1 to 5), a number (1 to 9999)" */
    private static void numbersOfTrains() {
        int[][] good = {{1, 1, 1, 1}, {30, 1, 1, 1}, {1, 9, 1, 1}, {1, 1, 5, 1}, {1, 1, 1, 9999}, {30, 9, 5, 9999}};
        for (int[] g : good) {
            RailwayHouse x = house(ticked(Check.STATION));
            Check.due("enter", x.enter(0, g[0], g[1], g[2], g[3]), 0);
            Check.due("number", x.train(0, 4), g[3]);
            Check.due("speed", x.train(0, 2), 0);
            Check.due("front", x.train(0, 1), 0);
        }
        int[][] bad = {{0, 1, 1, 1}, {31, 1, 1, 1}, {1, 0, 1, 1}, {1, 10, 1, 1}, {1, 1, 0, 1}, {1, 1, 6, 1}, {1, 1, 1, 0},
            {1, 1, 1, 10000}, {MIN, 1, 1, 1}, {1, MIN, 1, 1}, {1, 1, MIN, 1}, {1, 1, 1, MIN}, {MAX, 1, 1, 1}, {1, MAX, 1, 1},
            {1, 1, MAX, 1}, {1, 1, 1, MAX}, {-1, -1, -1, -1}};
        Twins twins = new Twins("enter", ticked(Check.STATION));
        for (int[] b : bad) {
            twins.refuses("enter", Check.OUTSIDE, x -> x.enter(0, b[0], b[1], b[2], b[3]));
            twins.refuses("enter nowhere", Check.UNKNOWN, x -> x.enter(6, b[0], b[1], b[2], b[3]));
        }
        twins.end();
    }

    /** "into a plain SECTION of which one END is not joined, the other has a SIGNAL" */
    private static void sectionsToComeInBy() {
        String layout = "plain 9 9;plain 9 9;plain 9 9;point 9 9;plain 9 9;plain 9 9;plain 9 9;"
                + "join 0 b 1 a;join 1 b 2 a;join 2 b 3 t;join 4 a 5 a;signal 0 b;signal 1 b;signal 1 a;signal 2 b;signal 4 a;";
        int[] due = {0, Check.OUTSIDE, Check.OUTSIDE, Check.OUTSIDE, 0, Check.OUTSIDE, Check.OUTSIDE};
        for (int s = 0; s < 7; s++) {
            int section = s;
            if (due[s] == 0) {
                Check.due("enter by " + s, house(ticked(layout)).enter(s, 1, 1, 1, 1), 0);
            } else {
                new Twins("enter by " + s, ticked(layout)).refuses("enter", due[s], x -> x.enter(section, 1, 1, 1, 1)).end();
            }
        }
        for (int s : new int[] {MIN, -1, 7, 24, MAX}) {
            new Twins("enter by " + s, ticked(layout)).refuses("enter", Check.UNKNOWN, x -> x.enter(s, 1, 1, 1, 1)).end();
        }
        RailwayHouse byB = house(ticked(layout));
        byB.enter(4, 1, 1, 1, 1);
        Check.due("its leave is from b to a", byB.leave(0), 9);
        Check.due("its number is at the signal of a", byB.signal(4, 3), 1);
    }

    /** "STATE: a train is on it, THE HOUSE HOLDS it" */
    private static void sectionsTakenAlready() {
        String layout = "plain 9 9;plain 9 9;plain 9 9;join 0 b 1 a;join 1 b 2 a;signal 0 b;signal 1 a;signal 2 a;";
        Consumer<RailwayHouse> free = ticked(layout);
        Check.due("nobody has it", house(free).enter(0, 1, 1, 1, 1), 0);
        new Twins("a train is on it", free.andThen(x -> x.enter(0, 9, 1, 1, 1))).refuses("enter", Check.STATE,
                x -> x.enter(0, 1, 1, 1, 1)).refuses("enter", Check.OUTSIDE, x -> x.enter(0, 31, 1, 1, 1)).end();
        RailwayHouse told = house(free);
        Check.due("overlap", told.route(2, 3), 0);
        Check.due("section", told.routeSection(1, 0), 0);
        new Twins("held as a section", free.andThen(x -> x.set(1))).refuses("enter", Check.STATE, x -> x.enter(0, 1, 1, 1, 1)).end();
        new Twins("held as an overlap", free.andThen(x -> x.set(2))).refuses("enter", Check.STATE, x -> x.enter(0, 1, 1, 1, 1)).end();
        Check.due("held no more", house(free.andThen(x -> x.set(2)).andThen(x -> x.cancel(2))).enter(0, 1, 1, 1, 1), 0);
        Check.due("a train of which only the rear is there", rearIn(layout).enter(0, 1, 1, 1, 1), Check.STATE);
        RailwayHouse left = rearIn(layout);
        left.tick(1);
        Check.due("the last of it has left", left.trainOn(0), Check.NONE);
        Check.due("enter then", left.enter(0, 1, 1, 1, 1), 1);
    }

    /** A train of length 2, its rear 1 ahead of the end of section 0. */
    private static RailwayHouse rearIn(String layout) {
        RailwayHouse x = clear(layout);
        x.enter(0, 2, 1, 1, 1);
        x.tick(10);
        Check.due("its front is behind the end", x.train(0, 0), 1);
        Check.due("its front is 1 behind the end", x.train(0, 1), 1);
        return x;
    }

    /** "A TRAIN (8 at most in the yard)"; "ROOM: 8 are in the yard, too" */
    private static void eightInTheYard() {
        StringBuilder text = new StringBuilder("plain 2 9;".repeat(18));
        for (int i = 0; i < 9; i++) {
            text.append("join ").append(2 * i).append(" b ").append(2 * i + 1).append(" a;signal ").append(2 * i).append(" b;");
        }
        Consumer<RailwayHouse> seven = ticked(text.toString()).andThen(x -> {
            for (int i = 0; i < 7; i++) {
                Check.due("enter", x.enter(2 * i, 1, 9, 1, 100 + i), i);
            }
        });
        Check.due("the eighth", house(seven).enter(14, 1, 9, 1, 1), 7);
        Twins twins = new Twins("eight", seven.andThen(x -> x.enter(14, 1, 9, 1, 107)));
        twins.refuses("the ninth", Check.ROOM, x -> x.enter(16, 1, 9, 1, 1));
        twins.refuses("the ninth, where one is", Check.STATE, x -> x.enter(14, 1, 9, 1, 1));
        twins.refuses("the ninth, too long", Check.OUTSIDE, x -> x.enter(16, 31, 9, 1, 1));
        twins.refuses("the ninth, nowhere", Check.UNKNOWN, x -> x.enter(18, 1, 9, 1, 1));
        twins.does("eight", 8, x -> x.count(4));
        twins.end();
        RailwayHouse x = house(seven.andThen(h -> h.enter(14, 1, 9, 1, 107)));
        wild(x);
        x.tick(4);
        Check.due("all are gone", x.count(4), 0);
        Check.due("there is room again", x.enter(16, 1, 9, 1, 1), 8);
        Check.due("came", x.count(5), 9);
    }

    /** "its number here (0, 1, .., 200 at most in all, ROOM)" */
    private static void twoHundredInAll() {
        Consumer<RailwayHouse> most = x -> {
            Check.load(x, "plain 1 9;plain 1 9;join 0 b 1 a;signal 0 b;");
            wild(x);
            for (int i = 0; i < 199; i++) {
                Check.due("enter", x.enter(0, 1, 9, 5, 1), i);
                x.tick(2);
            }
        };
        Twins twins = new Twins("the last train", most);
        twins.does("the last one", 199, x -> x.enter(0, 1, 9, 5, 1));
        twins.refuses("where it is", Check.STATE, x -> x.enter(0, 1, 9, 5, 1));
        twins.does("it goes", 401, x -> x.tick(2));
        twins.refuses("one more", Check.ROOM, x -> x.enter(0, 1, 9, 5, 1));
        twins.refuses("one more, too slow", Check.OUTSIDE, x -> x.enter(0, 1, 0, 5, 1));
        twins.does("none is there", 0, x -> x.count(4));
        twins.end();
    }

    // ---- where a train is

    /** "with its front at an END it is on that SECTION alone that it came through (at first on that into which it comes)" */
    private static void frontAtAnEnd() {
        RailwayHouse x = clear("plain 3 9;plain 3 9;plain 9 9;join 0 b 1 a;join 1 b 2 a;signal 0 b;");
        x.enter(0, 3, 1, 1, 1);
        Check.due("at first", x.trainOn(0), 0);
        Check.due("at first", x.train(0, 6), 1);
        int[] sections = {0, 0, 0, 1, 1, 1, 2, 2, 2};
        int[] places = {1, 2, 3, 1, 2, 3, 1, 2, 3};
        int[] on = {1, 1, 1, 2, 2, 1, 2, 2, 1};
        for (int i = 0; i < on.length; i++) {
            x.tick(1);
            Check.due("section, tick " + (i + 1), x.train(0, 0), sections[i]);
            Check.due("place, tick " + (i + 1), x.train(0, 1), places[i]);
            Check.due("on how many, tick " + (i + 1), x.train(0, 6), on[i]);
        }
        Check.due("not where its rear ends", x.trainOn(1), Check.NONE);
    }

    /** "Behind a border it goes on; with all of it outside it is gone." */
    private static void goneWithAllOfIt() {
        RailwayHouse x = clear("plain 5 9;plain 5 9;join 0 b 1 a;signal 0 b;");
        x.enter(0, 3, 1, 1, 7);
        x.tick(9);
        goes("at the border and behind it", x, 0, "1 5 1", "-9 1 1", "-9 2 1");
        Check.due("not gone", x.train(0, 3), 0);
        Check.due("on the last section still", x.trainOn(1), 0);
        Check.due("its leave ends nowhere", x.leave(0), Check.NONE);
        Check.due("in the yard", x.count(4), 1);
        goes("all of it", x, 0, "-9 3 0");
        Check.due("gone", x.train(0, 3), 1);
        Check.due("on none", x.train(0, 6), 0);
        Check.due("on none", x.trainOn(1), Check.NONE);
        Check.due("its number", x.train(0, 4), 7);
        Check.due("in the yard", x.count(4), 0);
        Check.due("came", x.count(5), 1);
        new Twins("gone", h -> {
            Check.load(h, "plain 1 9;plain 1 9;join 0 b 1 a;signal 0 b;");
            wild(h);
            h.enter(0, 1, 9, 5, 1);
            h.tick(2);
        }).refuses("leave", Check.STATE, h -> h.leave(0)).refuses("stand", Check.STATE, h -> h.stand(0, true))
                .refuses("stand", Check.STATE, h -> h.stand(0, false)).refuses("train", Check.OUTSIDE, h -> h.train(0, 7)).end();
    }

    // ---- leave

    /** "up to the first END at which it can't go on"; "How far its LEAVE is .. UNKNOWN; STATE: it is gone." */
    private static void leaveUpToTheFirstEnd() {
        RailwayHouse later = house(ticked(Check.ROW));
        later.set(1);
        later.tick(2);
        later.enter(0, 2, 1, 1, 1);
        Check.due("a later signal that proceeds is no matter", later.leave(0), 10);
        RailwayHouse x = house(ticked(Check.ROW));
        x.set(0);
        x.set(1);
        x.enter(0, 2, 1, 1, 1);
        Check.due("to the first signal", x.leave(0), 10);
        x.tick(2);
        Check.due("signals 0 and 1 proceed", x.leave(0), 28);
        x.cancel(1);
        x.tick(1);
        Check.due("signal 0 alone proceeds", x.leave(0), 17);
        x.cancel(0);
        x.tick(6);
        Check.due("1 ahead of the signal", x.leave(0), 1);
        x.tick(1);
        Check.due("at the signal", x.leave(0), 0);
        Twins twins = new Twins("leave", ticked(Check.ROW).andThen(h -> h.enter(0, 1, 1, 1, 1)));
        for (int train : new int[] {MIN, -1, 1, 200, MAX}) {
            twins.refuses("leave of " + train, Check.UNKNOWN, h -> h.leave(train));
        }
        twins.end();
        // A point behind an end: against it, and to none.
        String merge = "plain 9 9;point 1 9;plain 9 9;join 0 b 1 r;join 1 t 2 a;signal 0 b;";
        RailwayHouse y = house(ticked(merge));
        wild(y);
        y.enter(0, 1, 1, 1, 1);
        Check.due("the point lies against it", y.leave(0), 9);
        y.move(1, 1);
        y.tick(2);
        Check.due("the point lies to none", y.lie(1), 2);
        Check.due("the point lies to none", y.leave(0), 7);
        y.tick(3);
        Check.due("the point lies for it", y.leave(0), Check.NONE);
    }

    /** "A border is no end of it; what goes round and round ends nowhere, too." */
    private static void leaveThatEndsNowhere() {
        RailwayHouse x = clear("plain 5 9;plain 5 9;join 0 b 1 a;signal 0 b;");
        x.enter(0, 1, 1, 1, 1);
        Check.due("a border", x.leave(0), Check.NONE);
        // A ring of 23 sections behind a point is gone round without an end.
        StringBuilder ring = new StringBuilder("plain 60 9;point 60 9;" + "plain 60 9;".repeat(22));
        ring.append("join 0 b 1 l;join 1 t 2 a;");
        for (int i = 2; i < 23; i++) {
            ring.append("join ").append(i).append(" b ").append(i + 1).append(" a;");
        }
        RailwayHouse y = house(ticked(ring + "join 23 b 1 r;signal 0 b;"));
        wild(y);
        y.enter(0, 1, 9, 5, 1);
        Check.due("round once, against the point", y.leave(0), 24 * 60);
        y.tick(20);
        Check.due("it is on the ring", y.train(0, 0), 2);
        Check.due("move", y.move(1, 1), 1);
        y.tick(5);
        Check.due("round and round", y.leave(0), Check.NONE);
    }

    // ---- speeds

    private static final String LONG = "plain 60 9;plain 60 9;plain 60 9;join 0 b 1 a;join 1 b 2 a;signal 0 b;";

    /** "of the speeds from SPEED + 1, at most its greatest one" */
    private static void fasterByOne() {
        RailwayHouse x = clear(LONG);
        x.enter(0, 1, 9, 5, 1);
        goes("greatest 9", x, 0, "0 1 1", "0 3 2", "0 6 3", "0 10 4", "0 15 5", "0 21 6", "0 28 7", "0 36 8", "0 45 9",
                "0 54 9", "1 3 9");
        RailwayHouse y = clear(LONG);
        y.enter(0, 1, 1, 5, 1);
        goes("greatest 1", y, 0, "0 1 1", "0 2 1", "0 3 1");
    }

    /** "down to SPEED - BRAKE (not below 0)" */
    private static void slowerByTheBrake() {
        int[][] due = {{8, 7, 6}, {7, 5, 3}, {6, 3, 0}, {5, 1, 0}, {4, 0, 0}};
        for (int brake = 1; brake <= 5; brake++) {
            RailwayHouse x = clear(LONG);
            x.enter(0, 1, 9, brake, 1);
            x.tick(9);
            Check.due("speed", x.train(0, 2), 9);
            Check.due("stand", x.stand(0, true), 0);
            for (int speed : due[brake - 1]) {
                x.tick(1);
                Check.due("brake " + brake, x.train(0, 2), speed);
            }
        }
    }

    /** "together it does not go beyond its LEAVE" */
    private static void safeUpToItsLeave() {
        String[][] due = {{"0 1 1", "0 1 0", "0 1 0"}, {"0 1 1", "0 2 1", "0 2 0"}, {"0 1 1", "0 2 1", "0 3 1", "0 3 0"},
            {"0 1 1", "0 3 2", "0 4 1", "0 4 0"}};
        for (int length = 1; length <= 4; length++) {
            RailwayHouse x = house(ticked("plain " + length + " 9;plain 9 9;join 0 b 1 a;signal 0 b;"));
            x.enter(0, 1, 9, 1, 1);
            goes("brake 1, a signal at " + length, x, 0, due[length - 1]);
        }
        // With a brake of 5 a speed of 5 needs 5 alone, 6 needs 6 and 1.
        RailwayHouse x = house(ticked("plain 20 9;plain 9 9;join 0 b 1 a;signal 0 b;"));
        x.enter(0, 1, 9, 5, 1);
        goes("brake 5", x, 0, "0 1 1", "0 3 2", "0 6 3", "0 10 4", "0 15 5", "0 20 5", "0 20 0");
        RailwayHouse y = house(ticked("plain 22 9;plain 9 9;join 0 b 1 a;signal 0 b;"));
        y.enter(0, 1, 9, 5, 1);
        goes("brake 5", y, 0, "0 1 1", "0 3 2", "0 6 3", "0 10 4", "0 15 5", "0 21 6", "0 22 1", "0 22 0");
        // The longest way to brake: 9 and 8 and so on down to 1 are 45; from 36 on, that is up to 81.
        for (int length = 20; length <= 21; length++) {
            RailwayHouse z = clear("plain 60 9;plain " + length + " 9;plain 9 9;join 0 b 1 a;join 1 b 2 a;signal 0 b;signal 1 b;");
            z.enter(0, 1, 9, 1, 1);
            z.tick(8);
            Check.due("speed", z.train(0, 2), 8);
            Check.due("leave", z.leave(0), 24 + length);
            goes("brake 1, a signal at " + (60 + length), z, 0, length == 21 ? "0 45 9" : "0 44 8");
        }
    }

    /** "from where its rear was when that began to where its front comes to, on a SECTION of a lesser LIMIT" */
    private static void limitsFromRearToFront() {
        RailwayHouse x = clear("plain 10 9;plain 4 2;plain 20 9;join 0 b 1 a;join 1 b 2 a;signal 0 b;");
        x.enter(0, 4, 9, 5, 1);
        goes("up to the end, through, and off it", x, 0, "0 1 1", "0 3 2", "0 6 3", "0 10 4", "1 2 2", "1 4 2", "2 2 2",
                "2 4 2", "2 7 3");
    }

    /** Each of the moves by which it would brake has its own speed, and its own sections. */
    private static void limitsOfBrakingMoves() {
        // Brake 1 and a limit of 1 from 10 on: 3 then 2 then 1 would be in it with 2 where only 1 is allowed.
        RailwayHouse x = clear("plain 10 9;plain 9 1;join 0 b 1 a;signal 0 b;");
        x.enter(0, 1, 9, 1, 1);
        goes("brake 1", x, 0, "0 1 1", "0 3 2", "0 6 3", "0 8 2", "0 10 2", "1 1 1", "1 2 1");
    }

    /** "one that is made to STAND takes the last one"; "1 if it was, else 0. UNKNOWN; STATE: it is gone." */
    private static void madeToStand() {
        RailwayHouse x = clear(LONG);
        x.enter(0, 1, 9, 2, 1);
        Check.due("stand", x.stand(0, true), 0);
        goes("it stands", x, 0, "0 0 0", "0 0 0");
        Check.due("stand again", x.stand(0, true), 1);
        Check.due("no more", x.stand(0, false), 1);
        Check.due("no more", x.stand(0, false), 0);
        goes("it goes", x, 0, "0 1 1", "0 3 2", "0 6 3");
        x.stand(0, true);
        goes("by its brake", x, 0, "0 7 1", "0 7 0");
        Twins twins = new Twins("stand", ticked(Check.ROW).andThen(h -> h.enter(0, 1, 1, 1, 1)));
        for (int train : new int[] {MIN, -1, 1, 200, MAX}) {
            twins.refuses("stand of " + train, Check.UNKNOWN, h -> h.stand(train, true));
            twins.refuses("stand of " + train, Check.UNKNOWN, h -> h.stand(train, false));
        }
        twins.end();
        new Twins("no train yet", ticked(Check.ROW)).refuses("stand", Check.UNKNOWN, h -> h.stand(0, true)).end();
    }

    /** "and something of the move is left, it stands there, SPEED 0 (.. if nothing is left SPEED stays as it is)" */
    private static void standsAtAPoint() {
        for (int length = 10; length <= 14; length++) {
            RailwayHouse x = house(ticked("plain " + length + " 9;point 1 9;plain 9 9;join 0 b 1 l;join 1 t 2 a;signal 0 b;"));
            wild(x);
            x.enter(0, 1, 9, 1, 1);
            x.tick(3);
            Check.due("move", x.move(1, 1), 1);
            goes("the point goes", x, 0, "0 10 4");
            int left = length - 10;
            // It can brake by 1 alone, to 3: with less than 3 left something of the move is left.
            goes("at " + length, x, 0, left < 3 ? "0 " + length + " 0" : "0 13 3");
            if (left == 3) {
                goes("then nothing of the next move is done", x, 0, "0 13 0");
            }
            if (left == 4) {
                goes("1 more, and something is left", x, 0, "0 14 0");
            }
            Check.due("no signal is passed", x.train(0, 5), 0);
        }
    }

    /** "A SIGNAL that it passes though that does not PROCEED counts as PASSED." */
    private static void passedSignals() {
        RailwayHouse x = clear(Check.ROW);
        x.enter(0, 1, 9, 1, 1);
        x.tick(3);
        x.force(0, 2, 1);
        goes("at the signal", x, 0, "0 10 4");
        Check.due("the signal does not proceed", x.signal(0, 2), 0);
        Check.due("at the signal is not passed", x.train(0, 5), 0);
        goes("behind it", x, 0, "1 3 3");
        Check.due("passed", x.train(0, 5), 1);
        RailwayHouse y = clear(Check.ROW);
        y.enter(0, 1, 2, 2, 1);
        y.tick(8);
        Check.due("behind the signal", y.train(0, 0), 1);
        Check.due("one that proceeded", y.train(0, 5), 0);
    }

    // ---- promises 27 and 29

    private static void tellTrains() {
        Twins twins = new Twins("train", ticked(Check.ROW).andThen(x -> x.enter(0, 1, 1, 1, 5)));
        int[] due = {0, 0, 0, 0, 5, 0, 1};
        for (int what = 0; what <= 6; what++) {
            int w = what;
            twins.does("what " + what, due[what], x -> x.train(0, w));
        }
        for (int what : new int[] {MIN, -1, 7, MAX}) {
            twins.refuses("what " + what, Check.OUTSIDE, x -> x.train(0, what));
            twins.refuses("what " + what, Check.UNKNOWN, x -> x.train(1, what));
        }
        for (int train : new int[] {MIN, -1, 1, 200, MAX}) {
            twins.refuses("train " + train, Check.UNKNOWN, x -> x.train(train, 0));
        }
        twins.end();
        new Twins("no train yet", ticked(Check.ROW)).refuses("train", Check.UNKNOWN, x -> x.train(0, 0)).end();
    }

    /** "The first TRAIN that is on a SECTION; NONE. UNKNOWN." */
    private static void trainsOnSections() {
        RailwayHouse x = Check.house("plain 2 9;plain 40 9;plain 2 9;join 0 b 1 a;join 1 b 2 a;signal 0 b;signal 2 a;");
        wild(x);
        x.enter(2, 1, 3, 3, 1);
        x.enter(0, 1, 3, 3, 2);
        Check.due("nobody", x.trainOn(1), Check.NONE);
        x.tick(3);
        Check.due("both are there", x.train(0, 0) + x.train(1, 0), 2);
        Check.due("the first one", x.trainOn(1), 0);
        Twins twins = new Twins("trainOn", ticked(Check.ROW).andThen(h -> h.enter(0, 1, 1, 1, 5)));
        twins.does("on", 0, h -> h.trainOn(0));
        twins.does("on", Check.NONE, h -> h.trainOn(3));
        for (int section : new int[] {MIN, -1, 4, 24, MAX}) {
            twins.refuses("trainOn " + section, Check.UNKNOWN, h -> h.trainOn(section));
        }
        twins.end();
    }

    // ---- ticks

    /** "So many TICKS (1 to 50): TIME. OUTSIDE; STATE: no layout." */
    private static void ticks() {
        Twins twins = new Twins("tick", ticked(Check.ROW));
        for (int n : new int[] {MIN, -1, 0, 51, MAX}) {
            twins.refuses("tick of " + n, Check.OUTSIDE, x -> x.tick(n));
        }
        twins.does("tick of 1", 2, x -> x.tick(1));
        twins.does("tick of 50", 52, x -> x.tick(50));
        twins.does("time", 52, x -> x.count(3));
        twins.end();
        Twins none = new Twins("no layout", x -> { });
        none.refuses("tick", Check.STATE, x -> x.tick(1)).refuses("tick", Check.STATE, x -> x.tick(50));
        none.refuses("tick", Check.OUTSIDE, x -> x.tick(0)).refuses("tick", Check.OUTSIDE, x -> x.tick(51)).end();
        RailwayHouse cleared = Check.house(Check.ROW);
        cleared.tick(1);
        cleared.clear();
        Check.due("no layout any more", cleared.tick(1), Check.STATE);
    }

    /** Fifty ticks at once are fifty ticks one by one. */
    private static void timeOfATick() {
        Consumer<RailwayHouse> past = x -> {
            Check.load(x, Check.STATION);
            x.tick(1);
            x.set(0);
            x.enter(0, 3, 4, 2, 12);
        };
        RailwayHouse once = house(past);
        RailwayHouse singly = house(past);
        once.tick(50);
        for (int i = 0; i < 50; i++) {
            singly.tick(1);
        }
        Check.due("the same", Told.future(once).equals(Told.future(singly)));
    }

    /** "TIME is one more; points go on; trains MOVE, by numbers; reports come; CYCLES, and the vote; BERTHS; holds .." */
    private static void orderOfATick() {
        RailwayHouse x = house(ticked("plain 2 9;point 1 9;plain 9 9;join 0 b 1 r;join 1 t 2 a;signal 0 b;"));
        wild(x);
        x.enter(0, 1, 1, 1, 1);
        x.tick(4);
        Check.due("it stands at the point", x.leave(0), 0);
        x.move(1, 1);
        x.tick(4);
        Check.due("the point lies to none", x.lie(1), 2);
        Check.due("its front is where it was", x.train(0, 0), 0);
        x.tick(1);
        Check.due("the point lies for it", x.lie(1), 1);
        Check.due("it has moved in the same tick", x.train(0, 0), 1);
        Check.due("which was reported", x.used(0, 1), 1);
        RailwayHouse y = clear(Check.ROW);
        y.enter(0, 1, 1, 1, 88);
        y.run(1);
        y.stopAt(0, 0, 0, 0);
        y.stopAt(0, 1, 1, 1);
        y.hold(0, 0, 1, 14);
        y.tick(10);
        Check.due("at the signal", y.train(0, 1), 10);
        Check.due("clear", y.routeAt(0, 0, 0), 3);
        Check.due("the hold counts", y.holdAt(0, 1), 0);
        Check.due("one more", y.tick(1), 14);
        Check.due("behind the signal", y.train(0, 0), 1);
        Check.due("reported", y.used(0, 1), 1);
        Check.due("used in its cycle", y.routeAt(0, 0, 0), 7);
        Check.due("voted", y.signal(0, 2), 0);
        Check.due("its number went on", y.signal(1, 3), 88);
        Check.due("the hold is gone", y.holdAt(0, 1), 2);
    }

    // ---- berths

    /** "A number (0 to 9999) is put into a SIGNAL's BERTH: what was there. UNKNOWN; OUTSIDE." */
    private static void numbersInBerths() {
        Twins twins = new Twins("interpose", ticked(Check.ROW));
        twins.does("interpose", 0, x -> x.interpose(2, 9999));
        twins.does("interpose", 9999, x -> x.interpose(2, 0));
        twins.does("interpose", 0, x -> x.interpose(2, 1));
        for (int number : new int[] {MIN, -1, 10000, MAX}) {
            twins.refuses("interpose of " + number, Check.OUTSIDE, x -> x.interpose(2, number));
            twins.refuses("interpose of " + number, Check.UNKNOWN, x -> x.interpose(3, number));
        }
        for (int signal : new int[] {MIN, -1, 3, 16, MAX}) {
            twins.refuses("interpose at " + signal, Check.UNKNOWN, x -> x.interpose(signal, 5));
        }
        twins.does("the number", 1, x -> x.signal(2, 3));
        twins.does("nothing is lost", 0, x -> x.count(9));
        twins.end();
    }

    /** "A train that comes in has its number put into that of the SIGNAL of its SECTION (a number that was there is LOST)." */
    private static void lostNumbers() {
        RailwayHouse x = house(ticked(Check.ROW));
        x.enter(0, 1, 1, 1, 9999);
        Check.due("its number", x.signal(0, 3), 9999);
        Check.due("0 is no number", x.count(9), 0);
        RailwayHouse y = house(ticked(Check.ROW));
        y.interpose(0, 1);
        y.enter(0, 1, 1, 1, 1);
        Check.due("lost, though the same", y.count(9), 1);
        RailwayHouse refused = house(ticked(Check.ROW));
        refused.interpose(0, 1);
        refused.enter(0, 1, 1, 6, 2);
        Check.due("nothing is lost by a refused one", refused.count(9), 0);
        Check.due("the number stays", refused.signal(0, 3), 1);
    }

    /** "the number of its SIGNAL goes to that of its LAST SIGNAL (.. LOST), at a BORDER away; 0 goes nowhere" */
    private static void numbersGoOn() {
        for (int there = 0; there <= 1; there++) {
            for (int mine = 0; mine <= 1; mine++) {
                RailwayHouse x = clear(Check.ROW);
                x.interpose(0, mine * 11);
                x.interpose(1, there * 22);
                x.force(0, 1, 1);
                x.tick(1);
                Check.due("it went on", x.signal(0, 3), 0);
                Check.due("where it came", x.signal(1, 3), mine == 1 ? 11 : there * 22);
                Check.due("lost", x.count(9), mine * there);
            }
        }
        RailwayHouse border = house(ticked(Check.ROW));
        border.set(2);
        border.tick(2);
        border.interpose(2, 33);
        border.force(0, 3, 1);
        border.tick(1);
        Check.due("away", border.signal(2, 3), 0);
        Check.due("not lost", border.count(9), 0);
        // In a tick in which the house goes down no number goes on.
        RailwayHouse down = clear(Check.STATION);
        down.interpose(0, 44);
        down.fault(0, 2);
        down.tick(1);
        down.fault(1, 2);
        down.force(0, 1, 1);
        down.tick(1);
        Check.due("down", down.count(6), 1);
        Check.due("in use in a channel", down.routeAt(2, 0, 0), 4);
        Check.due("the number stays", down.signal(0, 3), 44);
        // THE HOUSE is the first channel in THE VOTE: one that is still comes to no phase, one that is late does.
        for (int first = 0; first <= 1; first++) {
            RailwayHouse x = clear(Check.STATION);
            x.interpose(0, 77);
            x.fault(0, first == 0 ? 1 : 5);
            x.fault(1, first == 0 ? 5 : 1);
            x.force(0, 1, 1);
            x.tick(1);
            Check.due("channels 0 and 1 have the row of a cycle ago", x.channel(0, 0) * 100 + x.channel(1, 0) * 10 + x.channel(2, 0), 110);
            Check.due("phase of the still one", x.routeAt(first, 0, 0), 3);
            Check.due("phase of the late one", x.routeAt(1 - first, 0, 0), 4);
            Check.due("its number", x.signal(0, 3), first == 0 ? 77 : 0);
            Check.due("its number", x.signal(1, 3), first == 0 ? 0 : 77);
        }
        // From WAITING, too.
        RailwayHouse waiting = clear(Check.STATION);
        waiting.interpose(0, 55);
        waiting.cancel(0);
        waiting.tick(9);
        waiting.force(0, 1, 1);
        waiting.tick(1);
        Check.due("gone on", waiting.signal(1, 3), 55);
        // Once, not in each tick of the phase.
        waiting.interpose(0, 66);
        waiting.tick(3);
        Check.due("in use still", waiting.routeAt(0, 0, 0), 4);
        Check.due("a later number stays", waiting.signal(0, 3), 66);
    }

    /** "0, or the first of these that is so by what is there now" */
    private static void audits() {
        Check.due("no layout", new RailwayHouse().audit(), 0);
        RailwayHouse x = clear(Check.STATION);
        Check.due("nothing wrong", x.audit(), 0);
        x.cancel(0);
        Check.due("1: a signal proceeds, its route has another phase by now", x.audit(), 1);
        x.tick(1);
        Check.due("nothing wrong", x.audit(), 0);
        RailwayHouse y = clear(Check.STATION);
        for (int c = 0; c < 3; c++) {
            y.fault(c, 1);
        }
        for (int s : new int[] {1, 2, 4}) {
            y.force(0, s, 1);
            y.tick(1);
            Check.due("2: section or overlap " + s + " is occupied", y.audit(), 2);
            y.force(0, s, 0);
            y.tick(1);
            Check.due("nothing wrong", y.audit(), 0);
        }
        y.force(0, 3, 1);
        y.force(0, 0, 1);
        y.tick(1);
        Check.due("another section is no matter", y.audit(), 0);
        for (int lie = 1; lie <= 3; lie++) {
            y.force(1, 1, lie);
            y.tick(1);
            Check.due("2: its point is reported as " + lie, y.audit(), 2);
            y.force(1, 1, 0);
            y.tick(1);
        }
        // 5, and 1 ahead of it
        RailwayHouse z = Check.house("plain 2 9;plain 40 9;plain 2 9;join 0 b 1 a;join 1 b 2 a;signal 0 b;signal 2 a;");
        wild(z);
        z.enter(2, 1, 3, 3, 1);
        z.enter(0, 1, 3, 3, 2);
        z.tick(3);
        Check.due("1 is ahead of 5", z.audit(), 1);
        for (int c = 0; c < 3; c++) {
            z.fault(c, 0);
        }
        z.tick(1);
        Check.due("5: two trains on a section", z.audit(), 5);
    }
}
