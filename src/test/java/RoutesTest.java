/** Promises 8 to 11: routes, their sections, overlaps, needs and conflicts. */
public final class RoutesTest {
    public static void main(String[] args) {
        routesOfStation();
        conflictsOfStation();
        flanks();
        tornWays();
        overlapAlsoFlank();
        longWays();
        rings();
        fortyRoutes();
        refusals();
        Check.end("RoutesTest");
    }

    /** A route as text: signal, last signal, overlap; its sections; its needs. */
    private static String told(RailwayHouse x, int route) {
        StringBuilder all = new StringBuilder();
        all.append(x.route(route, 0)).append(' ').append(x.route(route, 1)).append(' ').append(x.route(route, 3));
        all.append(" /");
        for (int k = 0; k < x.route(route, 2); k++) {
            all.append(' ').append(x.routeSection(route, k));
        }
        all.append(" /");
        for (int k = 0; k < x.route(route, 4); k++) {
            all.append(' ').append(x.routeNeed(route, k));
        }
        return all.toString();
    }

    private static void routes(String layout, String... due) {
        RailwayHouse x = Check.house(layout);
        Check.due("routes", x.count(2), due.length);
        for (int r = 0; r < due.length; r++) {
            Check.dueText("route " + r, told(x, r), due[r]);
        }
    }

    private static void routesOfStation() {
        routes(Check.STATION,
                "0 1 4 / 1 2 / 2 8", "0 2 4 / 1 3 / 3 9",
                "1 -9 -9 / 4 5 / 8", "2 -9 -9 / 4 5 / 9",
                "3 4 1 / 4 2 / 8 2", "3 5 1 / 4 3 / 9 3",
                "4 -9 -9 / 1 0 / 2", "5 -9 -9 / 1 0 / 3");
        routes(Check.ROW, "0 1 2 / 1 /", "1 2 3 / 2 /", "2 -9 -9 / 3 /");
    }

    private static void conflictsOfStation() {
        RailwayHouse x = Check.house(Check.STATION);
        Check.due("with itself", x.conflict(0, 0), 0);
        Check.due("one signal", x.conflict(0, 1), 13);
        Check.due("overlap", x.conflict(0, 2), 2);
        Check.due("overlap, other way round", x.conflict(2, 0), 2);
        Check.due("overlap and needs", x.conflict(0, 3), 6);
        Check.due("against each other", x.conflict(0, 4), 3);
        Check.due("a point of both", x.conflict(0, 6), 1);
        Check.due("none", x.conflict(2, 6), 0);
        Check.due("sections and needs", x.conflict(2, 3), 5);
    }

    /** A crossover between two tracks: who goes straight needs the other point straight, too. */
    private static void flanks() {
        routes("plain 9 9;point 1 9;plain 9 9;plain 9 9;point 1 9;plain 9 9;"
                + "join 0 b 1 t;join 1 l 2 a;join 1 r 4 r;join 4 l 3 b;join 4 t 5 a;signal 0 b;signal 3 b;signal 5 a;",
                "0 -9 -9 / 1 2 / 2 8", "0 -9 -9 / 1 4 5 / 3 9", "1 -9 -9 / 4 5 / 8 2",
                "2 -9 -9 / 4 3 / 8 2", "2 -9 -9 / 4 1 0 / 9 3");
    }

    /** Two points of a way whose flanks are both legs of one point: that way needs it in both lies. */
    private static void tornWays() {
        routes("plain 9 9;point 1 9;point 1 9;plain 9 9;point 1 9;plain 9 9;"
                + "join 0 b 1 t;join 1 l 2 t;join 2 l 3 a;join 1 r 4 l;join 2 r 4 r;join 4 t 5 a;signal 0 b;",
                "0 -9 -9 / 1 2 4 5 / 2 5 9", "0 -9 -9 / 1 4 5 / 3 8 4");
    }

    /** The overlap is a point that is a flank, too: told once if alike, and no way if not. */
    private static void overlapAlsoFlank() {
        routes("plain 9 9;point 1 9;plain 9 9;point 1 9;plain 9 9;"
                + "join 0 b 1 t;join 1 l 2 a;join 2 b 3 l;join 1 r 3 r;join 3 t 4 a;signal 0 b;signal 2 b;",
                "0 1 3 / 1 2 / 2 6", "0 -9 -9 / 1 3 4 / 3 7", "1 -9 -9 / 3 4 / 6 2");
        // The overlap is a point, and the flank is another one.
        routes("plain 9 9;point 1 9;plain 9 9;point 1 9;plain 9 9;point 1 9;plain 9 9;"
                + "join 0 b 1 t;join 1 l 2 a;join 2 b 3 l;join 1 r 5 l;join 5 r 6 a;join 3 t 4 a;join 3 r 5 t;"
                + "signal 0 b;signal 2 b;",
                "0 1 3 / 1 2 / 2 6 11", "0 -9 -9 / 1 5 3 4 / 3 10 7", "1 -9 -9 / 3 4 / 6");
    }

    private static String row(int sections) {
        StringBuilder all = new StringBuilder();
        for (int i = 0; i < sections; i++) {
            all.append("plain 1 1;");
        }
        for (int i = 1; i < sections; i++) {
            all.append("join ").append(i - 1).append(" b ").append(i).append(" a;");
        }
        return all + "signal 0 b;";
    }

    private static void longWays() {
        routes(row(9), "0 -9 -9 / 1 2 3 4 5 6 7 8 /");
        routes(row(10));
        routes(row(10) + "signal 8 b;", "0 1 9 / 1 2 3 4 5 6 7 8 /", "1 -9 -9 / 9 /");
    }

    private static void rings() {
        // Two sections in a ring: behind the last signal is the signal's own section, so no overlap.
        routes("plain 1 1;plain 1 1;join 0 b 1 a;join 1 b 0 a;signal 0 b;signal 1 b;", "0 1 -9 / 1 /", "1 0 -9 / 0 /");
        // The same with one signal: the way comes into its own section.
        routes("plain 1 1;plain 1 1;join 0 b 1 a;join 1 b 0 a;signal 0 b;");
        // A point's legs joined: the way comes into the point twice.
        routes("plain 1 1;point 1 1;plain 1 1;join 0 b 1 t;join 1 l 2 a;join 1 r 2 b;signal 0 b;");
        // Its legs joined, with a signal between: the overlap would be of the way.
        routes("plain 1 1;point 1 1;plain 1 1;join 0 b 1 t;join 1 l 2 a;join 1 r 2 b;signal 0 b;signal 2 b;",
                "0 1 -9 / 1 2 / 2", "1 -9 -9 / 1 0 / 3");
    }

    /** A tree of points with 64 ways would be more than 40; two signals of 32 ways each are cut at 40. */
    private static void fortyRoutes() {
        StringBuilder all = new StringBuilder("plain 1 1;plain 1 1;");
        // Five points in a row, each with both legs led to the next one's leg l or r by turns is no tree, so
        // lozenges are used: a point's two legs go through plains to the two legs of the next point.
        for (int i = 0; i < 5; i++) {
            all.append("point 1 1;point 1 1;");
        }
        all.append("join 0 b 2 t;");
        for (int i = 0; i < 5; i++) {
            int open = 2 + 2 * i;
            int close = open + 1;
            all.append("join ").append(open).append(" l ").append(close).append(" l;");
            all.append("join ").append(open).append(" r ").append(close).append(" r;");
            all.append("join ").append(close).append(" t ");
            all.append(i < 4 ? open + 2 : 1).append(i < 4 ? " t;" : " a;");
        }
        RailwayHouse x = Check.house(all + "signal 0 b;");
        Check.due("more than 8 sections", x.count(2), 0);

        StringBuilder tree = new StringBuilder("plain 1 1;point 1 1;point 1 1;point 1 1;");
        tree.append("point 1 1;point 1 1;point 1 1;point 1 1;join 0 b 1 t;");
        for (int i = 1; i <= 3; i++) {
            tree.append("join ").append(i).append(" l ").append(2 * i).append(" t;");
            tree.append("join ").append(i).append(" r ").append(2 * i + 1).append(" t;");
        }
        RailwayHouse y = Check.house(tree + "signal 0 b;");
        Check.due("routes of a tree", y.count(2), 8);
        Check.dueText("first", told(y, 0), "0 -9 -9 / 1 2 4 / 2 4 8");
        Check.dueText("second", told(y, 1), "0 -9 -9 / 1 2 4 / 2 4 9");
        Check.dueText("third", told(y, 2), "0 -9 -9 / 1 2 5 / 2 5 10");
        Check.dueText("last", told(y, 7), "0 -9 -9 / 1 3 7 / 3 7 15");

        // Six signals that each come into a tree of 8 ends: the last one has none of the first 40.
        StringBuilder six = new StringBuilder();
        for (int i = 0; i < 6; i++) {
            six.append("plain 1 1;");
        }
        for (int i = 0; i < 5; i++) {
            six.append("point 1 1;");
        }
        for (int i = 0; i < 7; i++) {
            six.append("point 1 1;");
        }
        // 6..10 gather six tracks to one, 11..17 are the tree
        six.append("join 0 b 6 l;join 1 b 6 r;join 2 b 7 r;join 3 b 8 r;join 4 b 9 r;join 5 b 10 r;");
        six.append("join 6 t 7 l;join 7 t 8 l;join 8 t 9 l;join 9 t 10 l;join 10 t 11 t;");
        six.append("join 11 l 12 t;join 11 r 13 t;join 12 l 14 t;join 12 r 15 t;join 13 l 16 t;join 13 r 17 t;");
        for (int i = 5; i >= 0; i--) {
            six.append("signal ").append(i).append(" b;");
        }
        RailwayHouse z = Check.house(six.toString());
        Check.due("no more than 40", z.count(2), 40);
        Check.due("of the fifth signal", z.route(39, 0), 4);
        Check.due("route 40", z.route(40, 0), Check.UNKNOWN);
    }

    private static void refusals() {
        RailwayHouse x = Check.house(Check.STATION);
        Check.due("route", x.route(8, 0), Check.UNKNOWN);
        Check.due("route", x.route(-1, 9), Check.UNKNOWN);
        Check.due("route", x.route(0, 5), Check.OUTSIDE);
        Check.due("route", x.route(0, -1), Check.OUTSIDE);
        Check.due("routeSection", x.routeSection(8, 0), Check.UNKNOWN);
        Check.due("routeSection", x.routeSection(0, 2), Check.NONE);
        Check.due("routeSection", x.routeSection(0, -1), Check.NONE);
        Check.due("routeNeed", x.routeNeed(8, 0), Check.UNKNOWN);
        Check.due("routeNeed", x.routeNeed(0, 2), Check.NONE);
        Check.due("routeNeed", x.routeNeed(0, -1), Check.NONE);
        Check.due("conflict", x.conflict(8, 0), Check.UNKNOWN);
        Check.due("conflict", x.conflict(0, -1), Check.UNKNOWN);
    }
}
