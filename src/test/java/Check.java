/** What the tests share: comparing an answer with the one that is due, and laying a text on the tape. */
final class Check {
    static final int UNKNOWN = -1, OUTSIDE = -2, STATE = -3, ROOM = -4, NONE = -9;

    /** A station of two tracks between two borders: 8 routes. */
    static final String STATION = "plain 10 5; point 4 3; plain 20 5; plain 20 4; point 4 3; plain 10 5;\n"
            + "join 0 b 1 t; join 1 l 2 a; join 1 r 3 a; join 2 b 4 l; join 3 b 4 r; join 4 t 5 a;\n"
            + "signal 0 b; signal 2 b; signal 3 b; signal 5 a; signal 2 a; signal 3 a; stop 2 1; stop 3 1;";

    /** Plain sections in a row, with a signal at the end b of the first three: 3 routes of one section each. */
    static final String ROW = "plain 10 9; plain 10 9; plain 10 9; plain 10 9;"
            + "join 0 b 1 a; join 1 b 2 a; join 2 b 3 a; signal 0 b; signal 1 b; signal 2 b;";

    private static int calls = 0;
    private static int wrong = 0;

    private Check() {
    }

    static void due(String what, int got, int want) {
        calls++;
        if (got != want) {
            wrong++;
            System.out.println(what + " answered " + got + ", due is " + want);
        }
    }

    static void due(String what, boolean got) {
        due(what, got ? 1 : 0, 1);
    }

    /** Puts a text behind the tape. */
    static void type(RailwayHouse house, String text) {
        int before = house.count(14);
        StringBuilder padded = new StringBuilder(text);
        while (padded.length() % 20 != 0) {
            padded.append(' ');
        }
        for (int i = 0; i < padded.length(); i += 20) {
            due("feed", house.feed(word(padded, i), word(padded, i + 4), word(padded, i + 8),
                    word(padded, i + 12), word(padded, i + 16)), before + i + 20);
        }
        house.end(before + text.length());
    }

    private static int word(CharSequence text, int at) {
        return text.charAt(at) << 24 | text.charAt(at + 1) << 16 | text.charAt(at + 2) << 8 | text.charAt(at + 3);
    }

    static int load(RailwayHouse house, String text) {
        type(house, text);
        return house.load();
    }

    static RailwayHouse house(String text) {
        RailwayHouse house = new RailwayHouse();
        int answer = load(house, text);
        due("load of " + text + " (place " + house.place() + ")", answer > 0);
        return house;
    }

    /** A channel's route as its six numbers. */
    static String routeIn(RailwayHouse house, int channel, int route) {
        StringBuilder all = new StringBuilder();
        for (int what = 0; what <= 5; what++) {
            all.append(what == 0 ? "" : " ").append(house.routeAt(channel, route, what));
        }
        return all.toString();
    }

    static void dueText(String what, String got, String want) {
        calls++;
        if (!got.equals(want)) {
            wrong++;
            System.out.println(what + " is " + got + ", due is " + want);
        }
    }

    static void end(String test) {
        System.out.println(test + ": " + calls + " answers, " + wrong + " not as due");
        if (wrong != 0) {
            System.exit(1);
        }
    }
}
