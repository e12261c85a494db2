/** Promises 33 to 35: the disk, power that is cut, a start. */
public final class DiskTest {
    public static void main(String[] args) {
        refusals();
        phasesThatComeBack();
        usedRoutesComeBack();
        whatTheDiskDoesNotHold();
        yardGoesOnWithoutPower();
        commandsAtAStart();
        reportsAreForgotten();
        startOfAHouseThatIsDown();
        firstRowsBehindAStart();
        Check.end("DiskTest");
    }

    private static void phase(RailwayHouse x, int route, String due) {
        for (int c = 0; c < 3; c++) {
            Check.dueText("route " + route + " in channel " + c, Check.routeIn(x, c, route), due);
        }
    }

    private static void refusals() {
        RailwayHouse x = Check.house(Check.ROW);
        Check.due("start", x.start(), Check.STATE);
        Check.due("sync", x.sync(), 0);
        Check.due("cut", x.cut(), 1);
        Check.due("cut", x.count(7), 1);
        Check.due("cut", x.cut(), Check.STATE);
        Check.due("sync", x.sync(), Check.STATE);
        Check.due("reset", x.reset(), Check.STATE);
        Check.due("start", x.start(), 0);
        Check.due("cut", x.count(7), 0);
        Check.due("start", x.start(), Check.STATE);
    }

    private static void phasesThatComeBack() {
        RailwayHouse x = Check.house(Check.ROW);
        x.tick(1);
        x.set(0);
        x.set(1);
        x.set(2);
        x.tick(2);
        x.cancel(1);
        x.release(2);
        x.tick(3);
        phase(x, 0, "3 0 0 1 0 0");
        phase(x, 1, "5 7 0 1 0 0");
        phase(x, 2, "6 17 0 1 0 0");
        Check.due("sync", x.sync(), 3);
        x.fault(1, 4);
        Check.due("cut", x.cut(), 1);
        Check.due("no signal", x.signal(0, 2), 0);
        Check.due("no order", x.set(0), 0);
        Check.due("no order", x.cancel(0), 0);
        Check.due("unknown all the same", x.cancel(3), Check.UNKNOWN);
        Check.due("start", x.start(), 3);
        phase(x, 0, "2 0 1 1 0 0");
        phase(x, 1, "2 0 1 1 0 0");
        phase(x, 2, "6 20 0 1 0 0");
        Check.due("whole", x.channel(1, 1), 0);
        Check.due("no report has come", x.used(0, 0), 1);
        Check.due("held", x.holder(1), 0);
        x.tick(3);
        phase(x, 0, "2 0 1 1 0 0");
        phase(x, 2, "6 17 0 1 0 0");
        Check.due("no signal", x.signal(0, 2), 0);
        Check.due("set again", x.set(0), 1);
        x.tick(1);
        Check.due("signal", x.signal(0, 2), 1);
        Check.due("cancel", x.cancel(1), 1);
        phase(x, 1, "5 10 1 1 0 0");
    }

    private static void usedRoutesComeBack() {
        RailwayHouse x = Check.house(Check.STATION);
        x.tick(1);
        x.set(0);
        x.tick(2);
        x.force(0, 1, 1);
        x.tick(1);
        Check.due("sync", x.sync(), 1);
        x.cut();
        x.start();
        phase(x, 0, "4 0 0 1 0 1");
        x.force(0, 1, 0);
        x.force(0, 2, 1);
        x.tick(1);
        phase(x, 0, "7 4 0 1 2 3");
        x.tick(2);
        Check.due("sync", x.sync(), 1);
        x.tick(1);
        x.cut();
        x.start();
        phase(x, 0, "7 4 0 1 2 3");
        Check.due("held", x.holder(1), Check.NONE);
        Check.due("held", x.holder(4), 0);
        x.tick(4);
        phase(x, 0, "0 0 0 0 0 0");
        Check.due("bound no more", x.move(4, 1), 1);
    }

    private static void whatTheDiskDoesNotHold() {
        RailwayHouse x = Check.house(Check.ROW);
        x.tick(1);
        x.set(0);
        Check.due("sync", x.sync(), 1);
        x.set(1);
        x.cancel(0);
        x.cut();
        Check.due("start", x.start(), 1);
        phase(x, 0, "2 0 1 1 0 0");
        phase(x, 1, "0 0 0 0 0 0");
        x.cancel(0);
        x.tick(10);
        Check.due("sync", x.sync(), 0);
        x.cut();
        Check.due("start", x.start(), 0);
        phase(x, 0, "0 0 0 0 0 0");
    }

    private static void yardGoesOnWithoutPower() {
        RailwayHouse x = Check.house(Check.STATION);
        x.tick(1);
        x.move(1, 1);
        x.set(2);
        x.tick(1);
        x.enter(0, 2, 3, 3, 5);
        x.cut();
        Check.due("tick", x.tick(3), 5);
        Check.due("points go on", x.lie(1), 2);
        Check.due("trains go on", x.train(0, 1), 6);
        Check.due("reports come", x.used(0, 5), 0);
        Check.due("no cycle", x.routeAt(0, 2, 0), 2);
        Check.due("in the vote", x.channel(0, 0), 1);
        x.tick(1);
        Check.due("it lies by the last command", x.lie(1), 1);
        Check.due("start", x.start(), 0);
        Check.due("no report has come", x.used(0, 5), 1);
        Check.due("no report has come", x.used(1, 1), 2);
        x.tick(5);
        Check.due("commands are as points lie", x.lie(1), 1);
    }

    private static void commandsAtAStart() {
        RailwayHouse x = Check.house(Check.STATION);
        x.tick(1);
        x.move(1, 1);
        x.move(4, 1);
        x.block(4, true);
        x.tick(8);
        x.cut();
        x.start();
        x.tick(1);
        Check.due("lies to 1", x.lie(1), 1);
        Check.due("commanded to 0, where to none", x.lie(4), 2);
        x.block(4, false);
        x.tick(2);
        Check.due("on its way", x.lie(4), 2);
        x.tick(1);
        Check.due("there", x.lie(4), 0);
    }

    /** What was reported ahead of a start is not used, though the reports behind it are missing. */
    private static void reportsAreForgotten() {
        RailwayHouse x = Check.house("point 1 1;plain 1 1;join 0 t 1 a;");
        x.tick(1);
        for (int s = 0; s < 2; s++) {
            Check.due("free", x.used(0, s), 0);
            x.force(0, s, -2);
        }
        Check.due("lies", x.used(1, 0), 0);
        x.force(1, 0, -2);
        x.cut();
        x.start();
        x.tick(1);
        Check.due("not known", x.used(0, 0), 1);
        Check.due("not known", x.used(0, 1), 1);
        Check.due("not known", x.used(1, 0), 2);
        x.force(0, 0, -1);
        x.tick(1);
        Check.due("free", x.used(0, 0), 0);
        Check.due("what is forced stays so", x.used(0, 1), 1);
    }

    private static void startOfAHouseThatIsDown() {
        RailwayHouse x = Check.house(Check.ROW);
        x.tick(1);
        x.set(0);
        x.tick(2);
        x.sync();
        x.fault(0, 4);
        x.set(1);
        x.fault(1, 4);
        x.set(2);
        Check.due("down", x.count(6), 1);
        Check.due("cut", x.cut(), 1);
        Check.due("start", x.start(), 1);
        Check.due("not down", x.count(6), 0);
        for (int c = 0; c < 3; c++) {
            Check.due("in the vote", x.channel(c, 0), 1);
            Check.due("whole", x.channel(c, 1), 0);
        }
        phase(x, 0, "2 0 1 1 0 0");
        phase(x, 1, "0 0 0 0 0 0");
    }

    /** Rows ahead of a first cycle are as the channels are, so one that is still does not stand out. */
    private static void firstRowsBehindAStart() {
        RailwayHouse x = Check.house(Check.ROW);
        x.tick(1);
        x.set(0);
        x.tick(2);
        x.sync();
        x.cut();
        x.start();
        x.fault(0, 1);
        x.fault(1, 5);
        x.tick(2);
        for (int c = 0; c < 3; c++) {
            Check.due("in the vote", x.channel(c, 0), 1);
        }
    }
}
