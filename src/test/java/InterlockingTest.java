/** Promises 12 to 19: orders, phases, what is held and bound, reports and what is used of them. */
public final class InterlockingTest {
    public static void main(String[] args) {
        phasesOfARoute();
        cancelAndWait();
        releaseByForce();
        pointsAreCalled();
        calledInVain();
        trainThroughTwoSections();
        waitingIsUsed();
        barredAndSetAgain();
        whoHoldsWhat();
        freedStepByStep();
        boundPoints();
        sharedOverlap();
        moves();
        usedReports();
        usedPoints();
        refusals();
        Check.end("InterlockingTest");
    }

    private static void phase(RailwayHouse x, int route, String due) {
        for (int c = 0; c < 3; c++) {
            Check.dueText("route " + route + " in channel " + c + " at " + x.count(3), Check.routeIn(x, c, route), due);
        }
    }

    private static RailwayHouse ticked(String layout) {
        RailwayHouse x = Check.house(layout);
        x.tick(1);
        return x;
    }

    private static void phasesOfARoute() {
        RailwayHouse x = Check.house(Check.ROW);
        Check.due("set ahead of a report", x.set(0), 0);
        x.tick(1);
        Check.due("set", x.set(0), 1);
        phase(x, 0, "1 0 0 0 0 0");
        Check.due("set again", x.set(0), 0);
        x.tick(1);
        phase(x, 0, "2 0 0 0 0 0");
        Check.due("set again", x.set(0), 0);
        Check.due("no signal yet", x.signal(0, 2), 0);
        x.tick(1);
        phase(x, 0, "3 0 0 1 0 0");
        Check.due("signal", x.signal(0, 2), 1);
        Check.due("other signal", x.signal(1, 2), 0);
        Check.due("enter", x.enter(0, 4, 3, 3, 77), 0);
        x.tick(4);
        phase(x, 0, "3 0 0 1 0 0");
        x.tick(1);
        phase(x, 0, "7 4 0 1 1 1");
        Check.due("signal", x.signal(0, 2), 0);
        Check.due("section given back", x.holder(1), Check.NONE);
        Check.due("overlap", x.holder(2), 0);
        Check.due("not cancelled in overtime", x.cancel(0), 0);
        x.tick(3);
        phase(x, 0, "7 1 0 1 1 1");
        x.tick(1);
        phase(x, 0, "0 0 0 0 0 0");
        Check.due("overlap", x.holder(2), Check.NONE);
        Check.due("no set while a train is there", x.set(0), 0);
    }

    private static void cancelAndWait() {
        RailwayHouse x = ticked(Check.ROW);
        Check.due("cancel of none", x.cancel(0), 0);
        x.set(0);
        Check.due("cancel of a called one", x.cancel(0), 1);
        phase(x, 0, "0 0 0 0 0 0");
        x.set(0);
        x.tick(1);
        Check.due("cancel of a set one that was not shown", x.cancel(0), 1);
        phase(x, 0, "0 0 0 0 0 0");
        x.set(0);
        x.tick(2);
        Check.due("cancel of a clear one", x.cancel(0), 1);
        phase(x, 0, "5 10 0 1 0 0");
        Check.due("the signal is as it was voted", x.signal(0, 2), 1);
        Check.due("audit sees that", x.audit(), 1);
        Check.due("cancel of a waiting one", x.cancel(0), 0);
        x.tick(1);
        phase(x, 0, "5 9 0 1 0 0");
        Check.due("signal", x.signal(0, 2), 0);
        Check.due("audit", x.audit(), 0);
        x.tick(8);
        phase(x, 0, "5 1 0 1 0 0");
        Check.due("held", x.holder(1), 0);
        x.tick(1);
        phase(x, 0, "0 0 0 0 0 0");
        Check.due("held", x.holder(1), Check.NONE);
    }

    private static void releaseByForce() {
        RailwayHouse x = ticked(Check.ROW);
        Check.due("release of none", x.release(0), 0);
        x.set(0);
        x.tick(2);
        Check.due("release", x.release(0), 1);
        phase(x, 0, "6 20 0 1 0 0");
        Check.due("release again", x.release(0), 0);
        Check.due("released", x.count(8), 1);
        Check.due("cancel", x.cancel(0), 0);
        x.tick(19);
        phase(x, 0, "6 1 0 1 0 0");
        Check.due("held", x.holder(1), 0);
        x.tick(1);
        phase(x, 0, "0 0 0 0 0 0");
        x.set(0);
        Check.due("release of a called one", x.release(0), 1);
        phase(x, 0, "6 20 0 0 0 0");
        Check.due("released", x.count(8), 2);
    }

    private static void pointsAreCalled() {
        RailwayHouse x = ticked(Check.STATION);
        Check.due("set", x.set(1), 1);
        x.tick(1);
        phase(x, 1, "1 1 0 0 0 0");
        Check.due("commanded, does not go yet", x.lie(1), 0);
        x.tick(1);
        phase(x, 1, "1 2 0 0 0 0");
        Check.due("goes", x.lie(1), 2);
        Check.due("goes", x.lie(4), 2);
        Check.due("used", x.used(1, 1), 2);
        x.tick(2);
        phase(x, 1, "1 4 0 0 0 0");
        Check.due("goes", x.lie(1), 2);
        x.tick(1);
        Check.due("lies", x.lie(1), 1);
        Check.due("lies", x.lie(4), 1);
        phase(x, 1, "2 0 0 0 0 0");
        x.tick(1);
        phase(x, 1, "3 0 0 1 0 0");
        Check.due("signal", x.signal(0, 2), 1);
        Check.due("audit", x.audit(), 0);
    }

    private static void calledInVain() {
        RailwayHouse x = ticked(Check.STATION);
        Check.due("block", x.block(1, true), 0);
        x.set(1);
        x.tick(11);
        phase(x, 1, "1 11 0 0 0 0");
        x.tick(1);
        phase(x, 1, "0 0 0 0 0 0");
        Check.due("lies to none still", x.lie(1), 2);
        Check.due("the other one came there", x.lie(4), 1);
        Check.due("block", x.block(1, false), 1);
        Check.due("lies to none still", x.lie(1), 2);
        x.tick(1);
        Check.due("lies in the first tick then", x.lie(1), 1);
    }

    private static void trainThroughTwoSections() {
        RailwayHouse x = ticked(Check.STATION);
        x.set(0);
        x.tick(2);
        x.enter(0, 4, 3, 3, 77);
        x.tick(4);
        phase(x, 0, "3 0 0 1 0 0");
        x.tick(1);
        phase(x, 0, "4 0 0 1 0 1");
        Check.due("cancel in use", x.cancel(0), 0);
        x.tick(1);
        phase(x, 0, "4 0 0 1 0 3");
        x.tick(1);
        phase(x, 0, "4 0 0 1 0 3");
        Check.due("it is not on the point any more", x.trainOn(1), Check.NONE);
        Check.due("but was in this tick", x.used(0, 1), 1);
        x.tick(1);
        phase(x, 0, "7 4 0 1 2 3");
        Check.due("held", x.holder(1), Check.NONE);
        Check.due("held", x.holder(2), Check.NONE);
        Check.due("held", x.holder(4), 0);
        Check.due("the overlap's point is bound", x.move(4, 1), 0);
        Check.due("the other one is not", x.move(1, 1), 1);
        Check.due("release in overtime", x.release(0), 1);
        phase(x, 0, "6 20 0 1 2 3");
        Check.due("held", x.holder(2), Check.NONE);
        Check.due("held", x.holder(4), 0);
    }

    private static void waitingIsUsed() {
        RailwayHouse x = ticked(Check.STATION);
        x.set(0);
        x.tick(2);
        x.force(0, 1, 1);
        x.cancel(0);
        x.tick(1);
        phase(x, 0, "4 0 0 1 0 1");
        x.force(0, 1, -1);
        x.tick(3);
        phase(x, 0, "4 0 0 1 0 1");
        x.force(0, 2, 3);
        x.tick(1);
        phase(x, 0, "7 4 0 1 2 3");
    }

    private static void barredAndSetAgain() {
        RailwayHouse x = ticked(Check.STATION);
        x.set(0);
        x.tick(2);
        x.force(0, 4, 1);
        x.tick(1);
        phase(x, 0, "2 0 1 1 0 0");
        Check.due("signal", x.signal(0, 2), 0);
        x.force(0, 4, -1);
        x.tick(3);
        phase(x, 0, "2 0 1 1 0 0");
        Check.due("set", x.set(0), 1);
        phase(x, 0, "2 0 0 1 0 0");
        Check.due("set", x.set(0), 0);
        x.tick(1);
        phase(x, 0, "3 0 0 1 0 0");
        x.force(1, 4, 3);
        x.tick(1);
        phase(x, 0, "2 0 1 1 0 0");
        Check.due("cancel", x.cancel(0), 1);
        phase(x, 0, "5 10 1 1 0 0");
        x.force(1, 4, 1);
        x.tick(10);
        phase(x, 0, "0 0 0 0 0 0");
        Check.due("the point lies against it, but is free and nobody's", x.set(0), 1);
    }

    private static void whoHoldsWhat() {
        RailwayHouse x = ticked(Check.STATION);
        Check.due("set", x.set(0), 1);
        for (int s = 0; s < 6; s++) {
            Check.due("holder of " + s, x.holder(s), s == 1 || s == 2 || s == 4 ? 0 : Check.NONE);
        }
        Check.due("one signal", x.set(1), 0);
        Check.due("against it", x.set(4), 0);
        Check.due("its sections", x.set(6), 0);
        Check.due("the overlap of another signal's route", x.set(3), 0);
        Check.due("a point needed otherwise", x.set(5), 0);
        Check.due("behind its last signal", x.set(2), 1);
        Check.due("first holder", x.holder(4), 0);
        Check.due("holder", x.holder(5), 2);
        Check.due("cancel", x.cancel(0), 1);
        Check.due("holder", x.holder(4), 2);
        Check.due("its overlap is another one's section", x.set(0), 0);
        Check.due("no", x.set(5), 0);
        Check.due("away from it", x.set(6), 1);
    }

    /** The last section goes back with the train on it, and the overlap stays for four cycles. */
    private static void freedStepByStep() {
        RailwayHouse x = ticked("plain 9 9;plain 9 9;plain 9 9;plain 9 9;plain 9 9;join 0 b 1 a;join 1 b 2 a;"
                + "join 2 b 3 a;join 3 b 4 a;signal 0 b;signal 3 b;");
        x.set(0);
        x.tick(2);
        x.force(0, 1, 1);
        x.force(0, 3, 1);
        x.tick(1);
        phase(x, 0, "4 0 0 1 0 5");
        x.force(0, 1, 0);
        x.tick(1);
        phase(x, 0, "4 0 0 1 0 5");
        x.force(0, 2, 2);
        x.tick(1);
        phase(x, 0, "4 0 0 1 1 7");
        Check.due("given back", x.holder(1), Check.NONE);
        Check.due("held", x.holder(2), 0);
        x.force(0, 1, 1);
        x.tick(1);
        phase(x, 0, "4 0 0 1 1 7");
        x.force(0, 2, 0);
        x.tick(1);
        phase(x, 0, "7 4 0 1 3 7");
        Check.due("overlap", x.holder(4), 0);
    }

    private static void boundPoints() {
        // The crossover: point 4 is the flank of point 1.
        RailwayHouse x = ticked("plain 9 9;point 1 9;plain 9 9;plain 9 9;point 1 9;plain 9 9;"
                + "join 0 b 1 t;join 1 l 2 a;join 1 r 4 r;join 4 l 3 b;join 4 t 5 a;signal 0 b;signal 3 b;signal 5 a;");
        Check.due("straight on", x.set(0), 1);
        Check.due("the flank is bound", x.move(4, 1), 0);
        Check.due("nor to where it lies", x.move(4, 0), 0);
        Check.due("straight on on the other track", x.set(2), 1);
        Check.due("across", x.set(4), 0);
        x.cancel(2);
        Check.due("the flank is not held", x.holder(4), Check.NONE);
        x.tick(2);
        x.force(0, 1, 1);
        x.tick(1);
        phase(x, 0, "4 0 0 1 0 1");
        Check.due("the flank is bound", x.move(4, 1), 0);
        x.force(0, 1, 0);
        x.force(0, 2, 1);
        x.tick(1);
        phase(x, 0, "0 0 0 0 0 0");
        Check.due("the flank is bound no more", x.move(4, 1), 1);
        x.tick(6);
        Check.due("lies", x.lie(4), 1);
        x.force(0, 2, 0);
        x.force(0, 4, 1);
        x.tick(1);
        Check.due("a flank that must move and is occupied", x.set(0), 0);
        x.force(0, 4, 0);
        x.tick(1);
        Check.due("set", x.set(0), 1);
        Check.due("it must move, and is another one's", x.set(2), 0);
    }

    /** Two tracks come to one point: both routes have it for their overlap, each in another lie. */
    private static void sharedOverlap() {
        RailwayHouse x = ticked("plain 9 9;plain 9 9;plain 9 9;plain 9 9;point 1 9;plain 9 9;join 0 b 2 a;join 1 b 3 a;"
                + "join 2 b 4 l;join 3 b 4 r;join 4 t 5 a;signal 0 b;signal 1 b;signal 2 b;signal 3 b;");
        Check.due("overlap", x.route(0, 3), 4);
        Check.due("overlap", x.route(1, 3), 4);
        Check.due("a point in two lies", x.conflict(0, 1), 4);
        Check.due("set", x.set(0), 1);
        Check.due("the overlap's point is bound", x.set(1), 0);
        x.cancel(0);
        Check.due("set", x.set(1), 1);
        Check.due("the overlap's point is bound", x.set(0), 0);
        RailwayHouse y = ticked("plain 9 9;plain 9 9;plain 9 9;plain 9 9;point 1 9;plain 9 9;join 0 b 2 a;join 1 b 3 a;"
                + "join 2 b 4 t;join 4 l 5 a;join 3 b 5 b;signal 0 b;signal 1 b;signal 2 b;signal 3 b;");
        Check.due("an overlap come into by t", y.route(0, 4), 0);
        Check.due("set", y.set(0), 1);
        Check.due("another overlap", y.set(1), 1);
    }

    private static void moves() {
        RailwayHouse x = Check.house(Check.STATION);
        Check.due("no report yet", x.move(1, 1), 0);
        x.tick(1);
        Check.due("move", x.move(1, 1), 1);
        Check.due("move to where it is commanded", x.move(1, 1), 1);
        x.tick(1);
        Check.due("lie", x.lie(1), 0);
        x.tick(1);
        Check.due("lie", x.lie(1), 2);
        Check.due("back again", x.move(1, 0), 1);
        x.tick(1);
        Check.due("lie", x.lie(1), 2);
        x.tick(1);
        Check.due("it goes back, three ticks from now", x.lie(1), 2);
        x.tick(2);
        Check.due("lie", x.lie(1), 2);
        x.tick(1);
        Check.due("lie", x.lie(1), 0);
        x.force(0, 1, 1);
        x.tick(1);
        Check.due("occupied", x.move(1, 1), 0);
    }

    private static void usedReports() {
        RailwayHouse x = Check.house(Check.ROW);
        Check.due("no report", x.used(0, 1), 1);
        x.tick(1);
        Check.due("free", x.used(0, 1), 0);
        Check.due("force", x.force(0, 1, -2), 1);
        Check.due("from the next tick on", x.used(0, 1), 0);
        x.tick(2);
        Check.due("two ticks are missing", x.used(0, 1), 0);
        x.tick(1);
        Check.due("three ticks are missing", x.used(0, 1), 1);
        x.force(0, 1, 0);
        x.tick(1);
        Check.due("free", x.used(0, 1), 0);
        for (int v = 1; v <= 3; v++) {
            x.force(0, 1, v);
            x.tick(1);
            Check.due("forced to " + v, x.used(0, 1), 1);
            x.force(0, 1, -2);
            x.tick(1);
            Check.due("then missing", x.used(0, 1), 1);
            x.force(0, 1, -1);
            x.tick(1);
            Check.due("then as it is", x.used(0, 1), 0);
        }
        x.force(0, 1, -2);
        x.tick(1);
        x.force(0, 1, 3);
        x.tick(1);
        x.force(0, 1, -2);
        x.tick(1);
        Check.due("free, missing, contradictory, missing", x.used(0, 1), 1);
    }

    private static void usedPoints() {
        RailwayHouse x = Check.house(Check.STATION);
        Check.due("no report", x.used(1, 1), 2);
        x.tick(1);
        Check.due("lies", x.used(1, 1), 0);
        Check.due("a point's section", x.used(0, 1), 0);
        x.force(1, 1, 1);
        x.tick(1);
        Check.due("forced", x.used(1, 1), 1);
        Check.due("it lies as it lies", x.lie(1), 0);
        x.force(1, 1, -2);
        x.tick(2);
        Check.due("missing", x.used(1, 1), 1);
        x.tick(1);
        Check.due("missing", x.used(1, 1), 2);
        x.force(1, 1, 2);
        x.tick(1);
        Check.due("none", x.used(1, 1), 2);
        x.force(1, 1, 3);
        x.tick(1);
        Check.due("contradictory", x.used(1, 1), 2);
        x.force(1, 1, -1);
        x.tick(1);
        Check.due("as it is", x.used(1, 1), 0);
    }

    private static void refusals() {
        RailwayHouse x = ticked(Check.STATION);
        for (int r : new int[] {-1, 8, Integer.MAX_VALUE, Integer.MIN_VALUE}) {
            Check.due("set", x.set(r), Check.UNKNOWN);
            Check.due("cancel", x.cancel(r), Check.UNKNOWN);
            Check.due("release", x.release(r), Check.UNKNOWN);
            Check.due("routeAt", x.routeAt(0, r, 6), Check.UNKNOWN);
            Check.due("move", x.move(r, 5), Check.UNKNOWN);
            Check.due("holder", x.holder(r), Check.UNKNOWN);
            Check.due("force", x.force(0, r, 9), Check.UNKNOWN);
            Check.due("used", x.used(7, r), Check.UNKNOWN);
        }
        Check.due("move of no point", x.move(0, 2), Check.UNKNOWN);
        Check.due("move", x.move(1, 2), Check.OUTSIDE);
        Check.due("move", x.move(1, -1), Check.OUTSIDE);
        Check.due("routeAt", x.routeAt(3, 0, 0), Check.UNKNOWN);
        Check.due("routeAt", x.routeAt(-1, 0, 0), Check.UNKNOWN);
        Check.due("routeAt", x.routeAt(0, 0, 6), Check.OUTSIDE);
        Check.due("routeAt", x.routeAt(0, 0, -1), Check.OUTSIDE);
        Check.due("force of no point", x.force(1, 0, 9), Check.UNKNOWN);
        Check.due("force", x.force(2, 0, 0), Check.OUTSIDE);
        Check.due("force", x.force(-1, 0, 0), Check.OUTSIDE);
        Check.due("force", x.force(0, 0, 4), Check.OUTSIDE);
        Check.due("force", x.force(1, 1, -3), Check.OUTSIDE);
        Check.due("used of no point", x.used(1, 0), Check.UNKNOWN);
        Check.due("used", x.used(2, 0), Check.OUTSIDE);
        Check.due("used", x.used(-1, 0), Check.OUTSIDE);
        x.tick(1);
        Check.due("nothing was forced", x.used(0, 0), 0);
    }
}
