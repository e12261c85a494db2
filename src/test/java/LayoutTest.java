/** Promises 1 to 7 and 50, 51: a new object, the tape, the layout's text and its faults. */
public final class LayoutTest {
    public static void main(String[] args) {
        newObject();
        tape();
        bytesOfTape();
        goodLayout();
        faultsOfTokens();
        faultsOfStatements();
        faultsOfRoom();
        faultsBehindAll();
        refusedLoadChangesNothing();
        loadBeginsAnew();
        clearAll();
        Check.end("LayoutTest");
    }

    private static void newObject() {
        RailwayHouse x = new RailwayHouse();
        for (int what = 0; what <= 14; what++) {
            Check.due("count " + what, x.count(what), 0);
        }
        Check.due("count -1", x.count(-1), Check.OUTSIDE);
        Check.due("count 15", x.count(15), Check.OUTSIDE);
        Check.due("place", x.place(), Check.NONE);
        Check.due("tick", x.tick(1), Check.STATE);
        Check.due("clear", x.clear(), 0);
    }

    private static void tape() {
        RailwayHouse x = new RailwayHouse();
        for (int i = 1; i <= 100; i++) {
            Check.due("feed", x.feed(0, 0, 0, 0, 0), i * 20);
        }
        Check.due("feed into a full tape", x.feed(0, 0, 0, 0, 0), Check.ROOM);
        Check.due("bytes", x.count(14), 2000);
        Check.due("end", x.end(2001), Check.OUTSIDE);
        Check.due("end", x.end(-1), Check.OUTSIDE);
        Check.due("end", x.end(2000), 2000);
        Check.due("end", x.end(1981), 1981);
        Check.due("feed without room", x.feed(0, 0, 0, 0, 0), Check.ROOM);
        Check.due("end", x.end(1980), 1980);
        Check.due("feed", x.feed(0, 0, 0, 0, 0), 2000);
        Check.due("load", x.load(), -11);
        Check.due("place", x.place(), 0);
        Check.due("a refused load keeps the tape", x.count(14), 2000);
    }

    private static void bytesOfTape() {
        RailwayHouse x = new RailwayHouse();
        // "plain 7 3;" and ten blanks, the highest byte of each number first
        x.feed(0x706c6169, 0x6e203720, 0x333b2020, 0x20202020, 0x20202020);
        Check.due("load", x.load(), 1);
        Check.due("length", x.section(0, 1), 7);
        Check.due("limit", x.section(0, 2), 3);
        Check.due("the tape is empty then", x.count(14), 0);
    }

    private static void goodLayout() {
        RailwayHouse x = new RailwayHouse();
        Check.due("load", Check.load(x, Check.STATION), 6);
        Check.due("place", x.place(), Check.NONE);
        Check.due("sections", x.count(0), 6);
        Check.due("signals", x.count(1), 6);
        int[] plain = {0, 20, 5, 1, 4, 13, Check.NONE, 4, 1};
        int[] point = {1, 4, 3, Check.NONE, 1, 6, 9, Check.NONE, Check.NONE};
        int[] border = {0, 10, 5, Check.NONE, Check.NONE, 3, Check.NONE, Check.NONE, 0};
        for (int what = 0; what <= 8; what++) {
            Check.due("plain section " + what, x.section(2, what), plain[what]);
            Check.due("point " + what, x.section(1, what), point[what]);
            Check.due("border " + what, x.section(0, what), border[what]);
        }
        Check.due("section", x.section(6, 0), Check.UNKNOWN);
        Check.due("section", x.section(-1, 9), Check.UNKNOWN);
        Check.due("section", x.section(0, 9), Check.OUTSIDE);
        Check.due("section", x.section(0, -1), Check.OUTSIDE);
        Check.due("signal's section", x.signal(3, 0), 5);
        Check.due("signal's end", x.signal(3, 1), 0);
        Check.due("signal's end", x.signal(1, 1), 1);
        Check.due("signal proceeds", x.signal(1, 2), 0);
        Check.due("signal's berth", x.signal(1, 3), 0);
        Check.due("signal", x.signal(6, 0), Check.UNKNOWN);
        Check.due("signal", x.signal(-1, 4), Check.UNKNOWN);
        Check.due("signal", x.signal(0, 4), Check.OUTSIDE);
        Check.due("signal", x.signal(0, -1), Check.OUTSIDE);
        Check.due("tokens side by side", Check.load(new RailwayHouse(), "plain10 5;plain 0010\n0005;join0b1a;"), 2);
        Check.due("to itself", Check.load(new RailwayHouse(), "plain 1 1;join 0 a 0 b;"), 1);
        Check.due("greatest numbers", Check.load(new RailwayHouse(), "plain 60 9;stop 0 7;"), 1);
    }

    private static void fault(String text, int fault, int place) {
        RailwayHouse x = new RailwayHouse();
        Check.due("load of '" + text + "'", Check.load(x, text), -10 - fault);
        Check.due("place of '" + text + "'", x.place(), place);
        Check.due("bytes of '" + text + "'", x.count(14), text.length());
    }

    private static void faultsOfTokens() {
        fault("plain 1 1; Plain", 1, 11);
        fault("plain 1 1;\t", 1, 10);
        fault("\u00ff", 1, 0);
        fault("plain 00001 1;", 1, 6);
        fault("plainplai 1 1;", 1, 0);
        fault("plainpla 1 1;", 3, 0);
        fault("azaz 1 1;", 3, 0);
        fault("`", 1, 0);
        fault("{", 1, 0);
        fault("plain 9090 1;", 4, 6);
        fault("plain /", 1, 6);
        fault("plain :", 1, 6);
        fault("plain 1 1; 12345", 1, 11);
        fault("plain 61 1$", 4, 6);
        fault("plain 1 1$", 1, 9);
    }

    private static void faultsOfStatements() {
        fault("plain", 2, 5);
        fault("plain 1 1", 2, 9);
        fault("plain 1 1  ", 2, 11);
        fault("plain 1 1 plain 1 1;", 2, 10);
        fault(";", 2, 0);
        fault("7", 2, 0);
        fault("plain a 1;", 2, 6);
        fault("plain 1 1; join a", 2, 16);
        fault("plain 1 1; join 0 0", 2, 18);
        fault("line 1 1;", 3, 0);
        fault("plain 1 1; join 0 t 0 b;", 3, 18);
        fault("plain 1 1; join 0 ab 0 b;", 3, 18);
        fault("point 1 1; join 0 a 0 b;", 3, 18);
        fault("plain 1 1; signal 0 r;", 3, 20);
        fault("plain 0 1;", 4, 6);
        fault("plain 61 1;", 4, 6);
        fault("plain 1 0;", 4, 8);
        fault("plain 1 10;", 4, 8);
        fault("join 0 a 1 a;", 4, 5);
        fault("plain 1 1; join 0 a 1 a; plain 1 1;", 4, 20);
        fault("plain 1 1; stop 0 8;", 4, 18);
        fault("plain 1 1; stop 1 0;", 4, 16);
        fault("plain 1 1; signal 1 a;", 4, 18);
        fault("plain 1 1; join 0 a 0 a;", 5, 22);
        fault("plain 1 1; plain 1 1; join 0 a 1 a; join 1 b 0 a;", 5, 47);
        fault("plain 1 1; plain 1 1; join 0 a 1 a; join 1 a 0 b;", 5, 43);
        fault("plain 1 1; signal 0 a; signal 0 a;", 5, 32);
        fault("plain 1 1; stop 0 1; stop 0 1;", 5, 26);
        fault("point 1 1; signal 0 t;", 6, 18);
        fault("point 1 1; stop 0 9;", 6, 16);
        fault("point 1 1; stop 0", 6, 16);
    }

    private static void faultsOfRoom() {
        StringBuilder many = new StringBuilder();
        for (int i = 0; i < 24; i++) {
            many.append("plain 1 1;");
        }
        Check.due("24 sections", Check.load(new RailwayHouse(), many.toString()), 24);
        fault(many + "plain 1 1;", 7, 240);
        fault(many + "point 99 1;", 7, 240);
        fault(many + "point", 7, 240);
        StringBuilder ring = new StringBuilder();
        for (int i = 0; i < 9; i++) {
            ring.append("plain 1 1;");
        }
        for (int i = 0; i < 9; i++) {
            ring.append("join ").append(i).append(" b ").append((i + 1) % 9).append(" a;");
        }
        for (int i = 0; i < 8; i++) {
            ring.append("signal ").append(i).append(" a;signal ").append(i).append(" b;");
        }
        Check.due("16 signals", Check.load(new RailwayHouse(), ring.toString()), 9);
        fault(ring + "signal 8 a;", 7, ring.length());
        fault(ring + "signal 0 a;", 7, ring.length());
    }

    private static void faultsBehindAll() {
        fault("", 8, 0);
        fault(" \n ", 8, 3);
        fault("plain 1 1; signal 0 a; ", 8, 23);
        fault("plain 1 1; plain 1 1; signal 0 b; join 0 a 1 a;", 8, 47);
        Check.due("a signal ahead of its join",
                Check.load(new RailwayHouse(), "plain 1 1; plain 1 1; signal 0 b; join 0 b 1 a;"), 2);
    }

    private static void refusedLoadChangesNothing() {
        RailwayHouse x = Check.house(Check.ROW);
        x.tick(1);
        Check.due("set", x.set(0), 1);
        x.tick(2);
        Check.due("bad load", Check.load(x, "plain"), -12);
        Check.due("place", x.place(), 5);
        Check.due("sections", x.count(0), 4);
        Check.due("time", x.count(3), 3);
        Check.due("phase", x.routeAt(0, 0, 0), 3);
        x.end(0);
        Check.due("place stays till the next load", x.place(), 5);
        Check.load(x, "plain 1 1;");
        Check.due("place", x.place(), Check.NONE);
    }

    private static void loadBeginsAnew() {
        RailwayHouse x = Check.house(Check.ROW);
        x.run(3);
        x.stopAt(0, 0, 1, 1);
        x.stopAt(0, 1, 2, 2);
        x.journey(0, 1, 0);
        x.hold(0, 0, 1, 100);
        x.line(0, 0, 1, 0, 1);
        x.dispatch();
        x.interpose(0, 4);
        x.enter(0, 3, 3, 1, 77);
        Check.due("a number is lost", x.count(9), 1);
        x.tick(2);
        x.force(0, 2, 1);
        x.set(0);
        x.release(0);
        x.interpose(1, 5);
        Check.due("sync", x.sync(), 1);
        x.fault(1, 3);
        x.cut();
        Check.due("load", Check.load(x, Check.ROW), 4);
        int[] due = {4, 3, 3, 0, 0, 0, 0, 0, 0, 0, 1, 1, 1, 1, 0};
        for (int what = 0; what <= 14; what++) {
            Check.due("count behind load " + what, x.count(what), due[what]);
        }
        Check.due("option stays", x.option(0, 0), 2);
        Check.due("turn stays", x.turn(0, 2), 1);
        Check.due("berth", x.signal(0, 3), 0);
        Check.due("berth", x.signal(1, 3), 0);
        Check.due("fault", x.channel(1, 1), 0);
        Check.due("used", x.used(0, 0), 1);
        Check.due("train", x.train(0, 0), Check.UNKNOWN);
        x.tick(1);
        Check.due("nothing is forced", x.used(0, 2), 0);
        x.cut();
        Check.due("nothing is on the disk", x.start(), 0);
        Check.due("nothing is on the disk", x.routeAt(0, 0, 0), 0);
        x.enter(0, 3, 3, 1, 78);
        Check.due("a new train stands", x.train(0, 2), 0);
    }

    private static void clearAll() {
        RailwayHouse x = Check.house(Check.ROW);
        x.station(0, 60, 9);
        x.station(1, 0, 0);
        x.run(3);
        x.stopAt(0, 0, 1, 1);
        x.stopAt(0, 1, 2, 2);
        x.journey(0, 1, 0);
        x.hold(0, 0, 1, 100);
        x.line(0, 0, 1, 0, 1);
        x.dispatch();
        x.enter(0, 3, 3, 1, 77);
        x.tick(7);
        x.fault(2, 4);
        x.cut();
        Check.type(x, "plain");
        x.load();
        Check.due("clear", x.clear(), 7);
        for (int what = 0; what <= 14; what++) {
            Check.due("count behind clear " + what, x.count(what), 0);
        }
        Check.due("place", x.place(), Check.NONE);
        Check.due("option", x.option(0, 0), Check.UNKNOWN);
        Check.due("turn", x.turn(0, 0), Check.NONE);
        Check.due("fault", x.channel(2, 1), 0);
        Check.due("hold", x.holdAt(0, 0), Check.UNKNOWN);
        Check.due("section", x.section(0, 0), Check.UNKNOWN);
        Check.due("route", x.route(0, 0), Check.UNKNOWN);
        x.run(3);
        x.stopAt(0, 0, 1, 1);
        x.stopAt(0, 1, 2, 2);
        x.journey(0, 1, 0);
        Check.due("zones are as at first", x.option(0, 2), 100);
    }
}
