/** Promises 23 to 32: points, trains, ticks, berths, the audit. */
public final class YardTest {
    private static final String LIMITS = "plain 10 9;plain 5 2;plain 10 9;join 0 b 1 a;join 1 b 2 a;signal 0 b;";

    public static void main(String[] args) {
        stopsAtASignal();
        passesASignal();
        standsAtAPoint();
        keepsLimits();
        standing();
        againstAPoint();
        roundAndRound();
        leavesAPointAsItCameIn();
        entering();
        roomInTheYard();
        roomInAll();
        pointsAgain();
        berths();
        audits();
        ticks();
        Check.end("YardTest");
    }

    private static void train(RailwayHouse x, int train, String due) {
        StringBuilder all = new StringBuilder();
        for (int what = 0; what <= 6; what++) {
            all.append(what == 0 ? "" : " ").append(x.train(train, what));
        }
        Check.dueText("train " + train + " at " + x.count(3), all.toString(), due);
    }

    private static void wild(RailwayHouse x) {
        for (int c = 0; c < 3; c++) {
            x.fault(c, 2);
        }
        x.tick(1);
    }

    private static void stopsAtASignal() {
        RailwayHouse x = Check.house(Check.ROW);
        Check.due("enter", x.enter(0, 4, 5, 2, 77), 0);
        train(x, 0, "0 0 0 0 77 0 1");
        Check.due("leave", x.leave(0), 10);
        Check.due("on", x.trainOn(0), 0);
        Check.due("on", x.trainOn(1), Check.NONE);
        String[] due = {"0 1 1", "0 3 2", "0 6 3", "0 9 3", "0 10 1", "0 10 0", "0 10 0"};
        for (String d : due) {
            x.tick(1);
            train(x, 0, d + " 0 77 0 1");
        }
        Check.due("leave", x.leave(0), 0);
        x.set(0);
        x.tick(2);
        Check.due("leave", x.leave(0), 10);
        x.tick(1);
        train(x, 0, "1 1 1 0 77 0 2");
        Check.due("on", x.trainOn(0), 0);
        Check.due("on", x.trainOn(1), 0);
        Check.due("leave", x.leave(0), 9);
        x.tick(1);
        train(x, 0, "1 3 2 0 77 0 2");
        x.tick(1);
        train(x, 0, "1 6 3 0 77 0 1");
        Check.due("it was on it when it moved", x.used(0, 0), 1);
        x.tick(1);
        Check.due("free", x.used(0, 0), 0);
    }

    private static void passesASignal() {
        RailwayHouse x = Check.house(Check.ROW);
        x.tick(1);
        x.set(0);
        x.tick(2);
        x.enter(0, 1, 9, 1, 1);
        x.tick(3);
        train(x, 0, "0 6 3 0 1 0 1");
        x.force(0, 2, 1);
        x.tick(1);
        train(x, 0, "0 10 4 0 1 0 1");
        Check.due("signal", x.signal(0, 2), 0);
        x.tick(1);
        train(x, 0, "1 3 3 0 1 1 1");
        x.tick(1);
        train(x, 0, "1 6 3 0 1 1 1");
        x.tick(1);
        train(x, 0, "1 8 2 0 1 1 1");
        x.tick(2);
        train(x, 0, "1 10 1 0 1 1 1");
        x.tick(1);
        train(x, 0, "1 10 0 0 1 1 1");
        x.stand(0, true);
        Check.load(x, Check.ROW);
        x.enter(0, 2, 9, 1, 3);
        train(x, 0, "0 0 0 0 3 0 1");
        Check.due("a new train 0 is not made to stand", x.stand(0, false), 0);
    }

    private static void standsAtAPoint() {
        String points = "point 1 9;plain 10 9;plain 10 9;join 0 b 1 l;join 1 t 2 a;join 1 r 3 a;signal 0 b;";
        RailwayHouse x = Check.house("plain 10 9;" + points);
        wild(x);
        x.enter(0, 1, 9, 1, 1);
        x.tick(3);
        train(x, 0, "0 6 3 0 1 0 1");
        Check.due("leave ends nowhere", x.leave(0), Check.NONE);
        Check.due("move", x.move(1, 1), 1);
        x.tick(1);
        train(x, 0, "0 10 4 0 1 0 1");
        x.tick(1);
        Check.due("leave", x.leave(0), 0);
        train(x, 0, "0 10 0 0 1 0 1");
        x.tick(20);
        Check.due("the point lies against it", x.lie(1), 1);
        train(x, 0, "0 10 0 0 1 0 1");
        RailwayHouse y = Check.house("plain 13 9;" + points);
        wild(y);
        y.enter(0, 1, 9, 1, 1);
        y.tick(3);
        y.move(1, 1);
        y.tick(1);
        train(y, 0, "0 10 4 0 1 0 1");
        y.tick(1);
        train(y, 0, "0 13 3 0 1 0 1");
        y.tick(1);
        train(y, 0, "0 13 0 0 1 0 1");
    }

    private static void keepsLimits() {
        RailwayHouse x = Check.house(LIMITS);
        x.tick(1);
        Check.due("set", x.set(0), 1);
        x.tick(2);
        x.enter(0, 3, 5, 1, 8);
        Check.due("leave", x.leave(0), Check.NONE);
        String[] due = {"0 1 1 0 8 0 1", "0 3 2 0 8 0 1", "0 6 3 0 8 0 1", "0 9 3 0 8 0 1", "1 1 2 0 8 0 2",
            "1 3 2 0 8 0 1", "1 5 2 0 8 0 1", "2 2 2 0 8 0 2", "2 4 2 0 8 0 1", "2 7 3 0 8 0 1",
            "-9 1 4 0 8 0 1", "-9 6 0 1 8 0 0"};
        for (String d : due) {
            x.tick(1);
            train(x, 0, d);
        }
        Check.due("in the yard", x.count(4), 0);
        Check.due("came", x.count(5), 1);
        Check.due("leave of one that is gone", x.leave(0), Check.STATE);
        Check.due("stand of one that is gone", x.stand(0, true), Check.STATE);
        Check.due("it was on it in this tick", x.used(0, 2), 1);
        x.tick(1);
        Check.due("free", x.used(0, 2), 0);
        train(x, 0, "-9 6 0 1 8 0 0");
    }

    private static void standing() {
        RailwayHouse x = Check.house(LIMITS);
        x.enter(0, 3, 5, 2, 8);
        Check.due("stand", x.stand(0, true), 0);
        x.tick(1);
        train(x, 0, "0 0 0 0 8 0 1");
        Check.due("stand", x.stand(0, true), 1);
        Check.due("stand", x.stand(0, false), 1);
        Check.due("stand", x.stand(0, false), 0);
        x.tick(3);
        train(x, 0, "0 6 3 0 8 0 1");
        x.stand(0, true);
        x.tick(1);
        train(x, 0, "0 7 1 0 8 0 1");
        x.tick(1);
        train(x, 0, "0 7 0 0 8 0 1");
        Check.due("stand", x.stand(1, true), Check.UNKNOWN);
        Check.due("stand", x.stand(-1, true), Check.UNKNOWN);
        Check.due("leave", x.leave(1), Check.UNKNOWN);
        Check.due("train", x.train(1, 9), Check.UNKNOWN);
        Check.due("train", x.train(-1, 0), Check.UNKNOWN);
        Check.due("train", x.train(0, 7), Check.OUTSIDE);
        Check.due("train", x.train(0, -1), Check.OUTSIDE);
        Check.due("trainOn", x.trainOn(3), Check.UNKNOWN);
        Check.due("trainOn", x.trainOn(-1), Check.UNKNOWN);
    }

    private static void againstAPoint() {
        RailwayHouse x = Check.house("plain 10 9;point 1 9;plain 10 9;plain 10 9;"
                + "join 0 b 1 r;join 1 t 2 a;join 1 l 3 a;signal 0 b;");
        wild(x);
        x.enter(0, 1, 9, 1, 1);
        Check.due("the signal proceeds, but the point lies against it", x.leave(0), 10);
        x.move(1, 1);
        x.tick(1);
        Check.due("commanded", x.leave(0), 9);
        x.tick(3);
        Check.due("on its way", x.lie(1), 2);
        x.tick(1);
        Check.due("leave", x.leave(0), Check.NONE);
    }

    private static void roundAndRound() {
        RailwayHouse x = Check.house("plain 10 9;point 1 9;plain 30 9;plain 30 9;"
                + "join 0 b 1 l;join 1 t 2 a;join 2 b 3 a;join 3 b 1 r;signal 0 b;");
        wild(x);
        x.enter(0, 2, 3, 3, 1);
        Check.due("the loop comes against the point", x.leave(0), 71);
        x.tick(6);
        Check.due("on the loop", x.train(0, 0), 2);
        Check.due("move", x.move(1, 1), 0);
        x.tick(1);
        Check.due("move", x.move(1, 1), 1);
        x.tick(5);
        Check.due("round and round", x.leave(0), Check.NONE);
        x.tick(50);
        Check.due("it goes on", x.train(0, 2), 3);
        Check.due("leave", x.leave(0), Check.NONE);
        Check.due("signals passed", x.train(0, 5), 0);
    }

    /** Its front came in when the point lay to 0; that leads it to l though the point goes under it. */
    private static void leavesAPointAsItCameIn() {
        RailwayHouse x = Check.house("plain 1 9;point 40 9;plain 10 9;plain 10 9;"
                + "join 0 b 1 t;join 1 l 2 a;join 1 r 3 a;signal 0 b;");
        x.tick(1);
        x.force(0, 1, 0);
        wild(x);
        x.enter(0, 1, 5, 1, 1);
        x.tick(2);
        Check.due("on the point", x.train(0, 0), 1);
        Check.due("the point is told to be free", x.move(1, 1), 1);
        x.tick(5);
        Check.due("still on the point", x.train(0, 0), 1);
        Check.due("it lies to 1", x.lie(1), 1);
        x.tick(5);
        Check.due("it goes to l", x.train(0, 0), 2);
    }

    private static void entering() {
        RailwayHouse x = Check.house(Check.STATION);
        Check.due("enter", x.enter(6, 0, 0, 0, 0), Check.UNKNOWN);
        Check.due("enter", x.enter(-1, 1, 1, 1, 1), Check.UNKNOWN);
        Check.due("no border", x.enter(2, 1, 1, 1, 1), Check.OUTSIDE);
        Check.due("a point", x.enter(1, 1, 1, 1, 1), Check.OUTSIDE);
        int[][] wrong = {{0, 1, 1, 1}, {31, 1, 1, 1}, {1, 0, 1, 1}, {1, 10, 1, 1}, {1, 1, 0, 1}, {1, 1, 6, 1},
            {1, 1, 1, 0}, {1, 1, 1, 10000}};
        for (int[] w : wrong) {
            Check.due("enter", x.enter(0, w[0], w[1], w[2], w[3]), Check.OUTSIDE);
        }
        Check.due("none came", x.count(5), 0);
        Check.due("enter", x.enter(0, 30, 9, 5, 9999), 0);
        Check.due("berth", x.signal(0, 3), 9999);
        Check.due("a train is on it", x.enter(0, 1, 1, 1, 1), Check.STATE);
        Check.due("from the other side", x.enter(5, 1, 1, 1, 1), 1);
        Check.due("berth", x.signal(3, 3), 1);
        Check.due("in the yard", x.count(4), 2);
        RailwayHouse y = Check.house(Check.STATION);
        y.tick(1);
        Check.due("set", y.set(6), 1);
        Check.due("the house holds it", y.enter(0, 1, 1, 1, 1), Check.STATE);
        Check.due("it does not hold that", y.enter(5, 1, 1, 1, 1), 0);
        RailwayHouse z = Check.house("plain 5 5;plain 5 5;plain 5 5;join 0 a 1 a;join 1 b 2 a;signal 1 b;");
        Check.due("a border without a signal", z.enter(0, 1, 1, 1, 1), Check.OUTSIDE);
        Check.due("a border without a signal", z.enter(2, 1, 1, 1, 1), Check.OUTSIDE);
        Check.due("joined on both sides", z.enter(1, 1, 1, 1, 1), Check.OUTSIDE);
        RailwayHouse w = Check.house("plain 9 5;plain 5 5;join 0 a 1 a;signal 0 a;");
        Check.due("by b", w.enter(0, 1, 5, 1, 1), 0);
        w.tick(2);
        train(w, 0, "0 3 2 0 1 0 1");
        Check.due("leave", w.leave(0), 6);
    }

    private static void roomInTheYard() {
        StringBuilder all = new StringBuilder();
        for (int i = 0; i < 18; i++) {
            all.append("plain 9 9;");
        }
        for (int i = 0; i < 9; i++) {
            all.append("join ").append(2 * i).append(" b ").append(2 * i + 1).append(" a;signal ").append(2 * i).append(" b;");
        }
        RailwayHouse x = Check.house(all.toString());
        for (int i = 0; i < 8; i++) {
            Check.due("enter", x.enter(2 * i, 1, 9, 1, 100 + i), i);
        }
        Check.due("state is ahead of room", x.enter(0, 1, 9, 1, 1), Check.STATE);
        Check.due("8 are in the yard", x.enter(16, 1, 9, 1, 1), Check.ROOM);
        Check.due("no number was put there", x.signal(8, 3), 0);
        wild(x);
        x.tick(20);
        Check.due("all are gone", x.count(4), 0);
        Check.due("enter", x.enter(16, 1, 9, 1, 1), 8);
    }

    private static void roomInAll() {
        RailwayHouse x = Check.house("plain 1 9;plain 1 9;join 0 b 1 a;signal 0 b;");
        wild(x);
        for (int i = 0; i < 200; i++) {
            Check.due("enter", x.enter(0, 1, 9, 5, 1), i);
            x.tick(2);
        }
        Check.due("in the yard", x.count(4), 0);
        Check.due("200 came", x.enter(0, 1, 9, 5, 1), Check.ROOM);
        Check.due("came", x.count(5), 200);
        Check.due("numbers lost", x.count(9), 199);
        Check.load(x, "plain 1 9;plain 1 9;join 0 b 1 a;signal 0 b;");
        Check.due("anew", x.enter(0, 1, 9, 5, 1), 0);
        train(x, 0, "0 0 0 0 1 0 1");
    }

    private static void pointsAgain() {
        RailwayHouse x = Check.house(Check.STATION);
        Check.due("lie", x.lie(0), Check.UNKNOWN);
        Check.due("lie", x.lie(6), Check.UNKNOWN);
        Check.due("lie", x.lie(-1), Check.UNKNOWN);
        Check.due("block", x.block(0, true), Check.UNKNOWN);
        Check.due("block", x.block(-1, true), Check.UNKNOWN);
        Check.due("lie", x.lie(1), 0);
        x.tick(1);
        x.block(1, true);
        x.block(1, true);
        x.move(1, 1);
        x.tick(3);
        Check.due("unblocked in time", x.block(1, false), 1);
        x.tick(1);
        Check.due("lie", x.lie(1), 2);
        x.tick(1);
        Check.due("lie", x.lie(1), 1);
        Check.due("block", x.block(1, true), 0);
        x.tick(3);
        Check.due("one that lies goes on to lie", x.lie(1), 1);
    }

    private static void berths() {
        RailwayHouse x = Check.house(Check.ROW);
        Check.due("interpose", x.interpose(3, 99999), Check.UNKNOWN);
        Check.due("interpose", x.interpose(-1, 0), Check.UNKNOWN);
        Check.due("interpose", x.interpose(0, 10000), Check.OUTSIDE);
        Check.due("interpose", x.interpose(0, -1), Check.OUTSIDE);
        Check.due("interpose", x.interpose(0, 9999), 0);
        Check.due("interpose", x.interpose(0, 5), 9999);
        Check.due("nothing is lost by that", x.count(9), 0);
        x.enter(0, 4, 3, 3, 77);
        Check.due("lost", x.count(9), 1);
        Check.due("berth", x.signal(0, 3), 77);
        x.interpose(1, 6);
        x.tick(1);
        x.set(0);
        x.set(1);
        x.set(2);
        x.tick(3);
        Check.due("berth", x.signal(0, 3), 77);
        x.tick(1);
        Check.due("in use", x.routeAt(0, 0, 0), 7);
        Check.due("gone on", x.signal(0, 3), 0);
        Check.due("berth", x.signal(1, 3), 77);
        Check.due("lost", x.count(9), 2);
        x.interpose(1, 0);
        x.interpose(2, 8);
        x.tick(4);
        Check.due("0 goes nowhere", x.signal(2, 3), 8);
        Check.due("lost", x.count(9), 2);
        x.tick(8);
        Check.due("away at the border", x.signal(2, 3), 0);
        Check.due("lost", x.count(9), 2);
        Check.due("gone", x.train(0, 3), 1);
    }

    private static void audits() {
        RailwayHouse x = Check.house("plain 2 9;plain 20 9;plain 2 9;join 0 b 1 a;join 1 b 2 a;signal 0 b;signal 2 a;");
        Check.due("audit", x.audit(), 0);
        wild(x);
        Check.due("a signal without a route", x.audit(), 1);
        x.enter(0, 1, 3, 3, 1);
        x.enter(2, 1, 3, 3, 2);
        x.tick(3);
        for (int c = 0; c < 3; c++) {
            x.fault(c, 0);
        }
        x.tick(1);
        Check.due("on", x.trainOn(1), 0);
        Check.due("two trains", x.audit(), 5);
        Check.due("on", x.train(1, 0), 1);
        RailwayHouse y = Check.house(Check.STATION);
        y.tick(1);
        y.set(0);
        y.tick(2);
        Check.due("audit", y.audit(), 0);
        for (int c = 0; c < 3; c++) {
            y.fault(c, 1);
        }
        y.force(1, 4, 1);
        y.tick(1);
        Check.due("a point that does not lie so", y.audit(), 2);
        y.force(1, 4, -1);
        y.tick(1);
        Check.due("audit", y.audit(), 0);
        y.force(0, 4, -2);
        y.tick(3);
        Check.due("an overlap that is not free", y.audit(), 2);
    }

    private static void ticks() {
        RailwayHouse x = new RailwayHouse();
        Check.due("tick", x.tick(1), Check.STATE);
        Check.due("tick", x.tick(51), Check.OUTSIDE);
        Check.load(x, Check.ROW);
        Check.due("tick", x.tick(0), Check.OUTSIDE);
        Check.due("tick", x.tick(-1), Check.OUTSIDE);
        Check.due("tick", x.tick(51), Check.OUTSIDE);
        Check.due("time", x.count(3), 0);
        Check.due("tick", x.tick(50), 50);
        Check.due("tick", x.tick(1), 51);
        Check.due("time", x.count(3), 51);
    }
}
