/** Promises 20 to 22 and what the vote makes of faulty channels. */
public final class ChannelsTest {
    public static void main(String[] args) {
        refusals();
        wild();
        allWild();
        deaf();
        twoUnlike();
        still();
        late();
        lateAtFirst();
        blind();
        threeUnlike();
        resetOfOneCutOff();
        resetOfAHouseThatIsDown();
        Check.end("ChannelsTest");
    }

    private static RailwayHouse ticked(String layout) {
        RailwayHouse x = Check.house(layout);
        x.tick(1);
        return x;
    }

    private static void voting(String what, RailwayHouse x, int a, int b, int c) {
        Check.due(what + ": channel 0 in the vote", x.channel(0, 0), a);
        Check.due(what + ": channel 1 in the vote", x.channel(1, 0), b);
        Check.due(what + ": channel 2 in the vote", x.channel(2, 0), c);
        Check.due(what + ": down", x.count(6), a + b + c == 0 ? 1 : 0);
    }

    private static void refusals() {
        RailwayHouse x = new RailwayHouse();
        voting("new", x, 1, 1, 1);
        Check.due("fault", x.fault(-1, 9), Check.UNKNOWN);
        Check.due("fault", x.fault(3, 0), Check.UNKNOWN);
        Check.due("fault", x.fault(0, -1), Check.OUTSIDE);
        Check.due("fault", x.fault(0, 6), Check.OUTSIDE);
        Check.due("channel", x.channel(3, 0), Check.UNKNOWN);
        Check.due("channel", x.channel(-1, 5), Check.UNKNOWN);
        Check.due("channel", x.channel(0, 2), Check.OUTSIDE);
        Check.due("channel", x.channel(0, -1), Check.OUTSIDE);
        for (int kind = 0; kind <= 5; kind++) {
            Check.due("fault", x.fault(1, kind), Math.max(0, kind - 1));
            Check.due("channel", x.channel(1, 1), kind);
        }
        Check.due("reset", x.reset(), Check.STATE);
    }

    private static void wild() {
        RailwayHouse x = ticked(Check.ROW);
        x.fault(0, 2);
        voting("only a tick votes rows", x, 1, 1, 1);
        x.tick(1);
        voting("wild", x, 0, 1, 1);
        Check.due("signal", x.signal(0, 2), 0);
        Check.due("set by two", x.set(0), 1);
        Check.due("not by the one cut off", x.routeAt(0, 0, 0), 0);
        Check.due("the house is channel 1", x.holder(1), 0);
        x.tick(2);
        Check.due("signal", x.signal(0, 2), 1);
        Check.due("the one cut off does nothing", x.routeAt(0, 0, 0), 0);
        Check.due("reset with its power cut", x.cut() == 1 && x.reset() == Check.STATE ? 1 : 0, 1);
    }

    private static void allWild() {
        RailwayHouse x = ticked(Check.ROW);
        for (int c = 0; c < 3; c++) {
            x.fault(c, 2);
        }
        x.tick(1);
        voting("all wild", x, 1, 1, 1);
        for (int s = 0; s < 3; s++) {
            Check.due("signal " + s, x.signal(s, 2), 1);
        }
        Check.due("audit", x.audit(), 1);
        x.fault(0, 0);
        x.tick(1);
        voting("two wild", x, 0, 1, 1);
        Check.due("signal", x.signal(2, 2), 1);
        x.fault(2, 0);
        x.tick(1);
        voting("one of two wild", x, 0, 0, 0);
        Check.due("signal", x.signal(2, 2), 0);
    }

    private static void deaf() {
        RailwayHouse x = ticked(Check.ROW);
        x.fault(2, 4);
        x.tick(1);
        voting("deaf", x, 1, 1, 1);
        Check.due("an order that nobody takes", x.cancel(0), 0);
        voting("deaf", x, 1, 1, 1);
        Check.due("set", x.set(0), 1);
        voting("deaf", x, 1, 1, 0);
        Check.due("phase", x.routeAt(2, 0, 0), 0);
        x.clear();
        Check.load(x, Check.ROW);
        x.tick(1);
        x.fault(1, 4);
        x.fault(2, 1);
        Check.due("two do not take it", x.set(0), 0);
        voting("deaf and still", x, 0, 1, 1);
        Check.due("the one cut off took it", x.routeAt(0, 0, 0), 1);
        Check.due("holder", x.holder(1), Check.NONE);
    }

    private static void twoUnlike() {
        RailwayHouse x = ticked(Check.ROW);
        x.fault(0, 4);
        Check.due("set", x.set(0), 1);
        voting("one cut off", x, 0, 1, 1);
        x.tick(2);
        Check.due("signal", x.signal(0, 2), 1);
        x.fault(1, 4);
        Check.due("two unlike", x.set(1), 0);
        voting("down", x, 0, 0, 0);
        Check.due("signal", x.signal(0, 2), 0);
        Check.due("set", x.set(2), 0);
        Check.due("release", x.release(0), 0);
        Check.due("unknown all the same", x.set(3), Check.UNKNOWN);
        Check.due("the house is channel 0", x.holder(1), Check.NONE);
        Check.due("sync", x.sync(), Check.STATE);
        x.tick(1);
        Check.due("no cycle", x.routeAt(1, 0, 0), 3);
        Check.due("not released", x.count(8), 0);
    }

    private static void still() {
        RailwayHouse x = ticked(Check.ROW);
        x.set(0);
        x.tick(2);
        x.fault(0, 1);
        x.tick(5);
        voting("nothing happens", x, 1, 1, 1);
        Check.due("signal", x.signal(0, 2), 1);
        x.force(0, 1, 1);
        x.tick(1);
        voting("still", x, 0, 1, 1);
        Check.due("phase", x.routeAt(0, 0, 0), 3);
        Check.due("phase", x.routeAt(1, 0, 0), 7);
        RailwayHouse y = Check.house(Check.ROW);
        y.fault(0, 1);
        y.fault(1, 1);
        y.tick(2);
        voting("rows ahead of a first cycle", y, 1, 1, 1);
        Check.due("two do not take it", y.set(0), 0);
        voting("one took it", y, 1, 1, 0);
    }

    private static void late() {
        RailwayHouse x = ticked(Check.ROW);
        x.set(0);
        x.tick(1);
        x.fault(1, 5);
        x.tick(1);
        voting("the row was another one a cycle ago", x, 1, 0, 1);
        RailwayHouse y = ticked(Check.ROW);
        y.set(0);
        y.tick(3);
        y.fault(1, 5);
        y.tick(1);
        voting("as a cycle ago", y, 1, 1, 1);
        y.force(0, 1, 1);
        y.tick(1);
        voting("late", y, 1, 0, 1);
        Check.due("it did its cycle", y.routeAt(1, 0, 0), 7);
        RailwayHouse z = ticked(Check.ROW);
        for (int c = 0; c < 3; c++) {
            z.fault(c, 5);
        }
        z.set(0);
        z.tick(2);
        Check.due("clear", z.routeAt(0, 0, 0), 3);
        Check.due("the signal is late", z.signal(0, 2), 0);
        z.tick(1);
        Check.due("then it is there", z.signal(0, 2), 1);
        voting("all late", z, 1, 1, 1);
    }

    private static void lateAtFirst() {
        RailwayHouse x = Check.house(Check.ROW);
        x.fault(2, 5);
        x.tick(1);
        voting("the row ahead of a first cycle is as the channel is", x, 1, 1, 1);
        x.tick(1);
        voting("late", x, 1, 1, 1);
    }

    private static void blind() {
        RailwayHouse x = Check.house(Check.ROW);
        x.fault(0, 3);
        x.tick(1);
        x.force(0, 1, 1);
        x.tick(1);
        voting("blind", x, 1, 1, 1);
        Check.due("used is not blind", x.used(0, 1), 1);
        Check.due("two do not take it", x.set(0), 0);
        voting("blind", x, 0, 1, 1);
        Check.due("the blind one took it", x.routeAt(0, 0, 0), 1);
        RailwayHouse y = ticked(Check.ROW);
        y.set(0);
        y.tick(2);
        for (int c = 0; c < 3; c++) {
            y.fault(c, 3);
        }
        y.force(0, 1, 1);
        y.tick(1);
        voting("all blind", y, 1, 1, 1);
        Check.due("phase", y.routeAt(0, 0, 0), 3);
        Check.due("signal", y.signal(0, 2), 1);
        Check.due("audit", y.audit(), 2);
        RailwayHouse z = Check.house(Check.STATION);
        for (int c = 0; c < 3; c++) {
            z.fault(c, 3);
        }
        Check.due("move of a point by blind ones", z.move(1, 1), 1);
        Check.due("set needs only to move points", z.set(0), 1);
    }

    private static void threeUnlike() {
        RailwayHouse x = ticked(Check.ROW);
        x.set(0);
        x.tick(1);
        x.fault(0, 2);
        x.fault(1, 1);
        x.tick(1);
        // 0: all signals; 1: as before, set; 2: clear
        voting("three unlike", x, 0, 0, 0);
        Check.due("signal", x.signal(0, 2), 0);
        Check.due("reset", x.reset(), 1);
        voting("reset", x, 1, 1, 1);
        Check.due("fault", x.channel(0, 1), 0);
        for (int c = 0; c < 3; c++) {
            Check.dueText("no route", Check.routeIn(x, c, 0), "0 0 0 0 0 0");
        }
        Check.due("reports have come", x.set(0), 1);
        Check.due("reset", x.reset(), Check.STATE);
    }

    private static void resetOfOneCutOff() {
        RailwayHouse x = ticked(Check.ROW);
        x.fault(0, 4);
        x.fault(1, 5);
        x.set(0);
        voting("deaf", x, 0, 1, 1);
        Check.due("reset", x.reset(), 1);
        voting("reset", x, 1, 1, 1);
        Check.due("all faults are none", x.channel(1, 1), 0);
        Check.dueText("as the first one in the vote", Check.routeIn(x, 0, 0), "1 0 0 0 0 0");
        Check.due("reset", x.reset(), Check.STATE);
        x.tick(2);
        voting("alike", x, 1, 1, 1);
        Check.due("signal", x.signal(0, 2), 1);
        x.enter(0, 2, 9, 1, 5);
        x.tick(2);
        x.fault(2, 2);
        x.tick(1);
        voting("wild", x, 1, 1, 0);
        Check.due("a train may go", x.train(0, 2), 3);
        Check.due("reset", x.reset(), 1);
        Check.due("the signal stays", x.signal(0, 2), 1);
    }

    private static void resetOfAHouseThatIsDown() {
        RailwayHouse x = ticked(Check.STATION);
        x.move(1, 1);
        x.tick(6);
        Check.due("lie", x.lie(1), 1);
        x.move(4, 1);
        x.tick(3);
        Check.due("on its way", x.lie(4), 2);
        x.enter(0, 2, 5, 1, 9);
        x.tick(1);
        x.fault(0, 4);
        Check.due("set", x.set(3), 1);
        x.fault(1, 4);
        Check.due("cancel", x.cancel(3), 0);
        Check.due("down", x.count(6), 1);
        Check.due("a train goes", x.train(0, 2), 1);
        Check.due("reset", x.reset(), Check.STATE);
        x.stand(0, true);
        x.tick(1);
        Check.due("points go on by the last commands", x.lie(4), 1);
        Check.due("it stands", x.train(0, 2), 0);
        Check.due("reset", x.reset(), 1);
        x.tick(5);
        Check.due("commands are as points lie", x.lie(1), 1);
        Check.due("commands are as points lie", x.lie(4), 1);
        voting("reset", x, 1, 1, 1);
        x.move(4, 0);
        x.tick(2);
        Check.due("on its way", x.lie(4), 2);
        x.fault(0, 2);
        x.fault(1, 4);
        x.move(1, 0);
        x.tick(1);
        Check.due("down", x.count(6), 1);
        Check.due("reset while a point is on its way", x.reset(), 1);
        x.tick(10);
        Check.due("commanded to 0, where to none", x.lie(4), 0);
        Check.due("lie", x.lie(1), 1);
    }
}
