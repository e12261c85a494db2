/**
 * The boundary cases of sections 1 THE LAYOUT and 2 ROUTES and of promises 1 to 11, each sentence with a test of
 * its own: the last number within a bound and the first one outside it, nothing there yet, no room left.
 */
public final class BoundsLayoutTest {
    private static final int MIN = Integer.MIN_VALUE, MAX = Integer.MAX_VALUE;

    public static void main(String[] args) {
        numbersOfFourDigits();
        wordsOfEightLetters();
        bytesThatBeginNoToken();
        blanksBetween();
        noBlanksBetween();
        statementsAsManyAsThereAre();
        bytesOfAllKinds();
        lengthsAndLimits();
        sectionsAtMost();
        signalsAtMost();
        stationsOfSections();
        endsOfSections();
        sectionsThatThereAreNotYet();
        endOfTheText();
        tokensOutOfPlace();
        leastFaultOfOneToken();
        firstTokenOfSeveral();
        endsJoinedTwice();
        signalsAndStopsTwice();
        pointsWithoutSignalsAndStops();
        faultsAtTheLength();
        waysOfEightSections();
        waysThatComeTwice();
        lastSignalsAndBorders();
        overlaps();
        needsOfOverlaps();
        flanksAreLegsOfOtherPoints();
        mostNeeds();
        needsInBothLies();
        orderOfRoutes();
        fortyRoutes();
        conflictsOneByOne();
        newObject();
        feedAndEnd();
        loadEmptiesTheTape();
        placeOfTheLatestLoad();
        tellSections();
        tellSignals();
        tellRoutes();
        Check.end("BoundsLayoutTest");
    }

    /** Loads a text that is good, and tells how many sections it has. */
    private static void good(String text, int sections) {
        RailwayHouse x = new RailwayHouse();
        Check.due("load of '" + text + "'", Check.load(x, text), sections);
        Check.due("place of '" + text + "'", x.place(), Check.NONE);
    }

    private static void fault(String text, int fault, int place) {
        RailwayHouse x = new RailwayHouse();
        Check.due("load of '" + text + "'", Check.load(x, text), -10 - fault);
        Check.due("place of '" + text + "'", x.place(), place);
        Check.due("sections behind '" + text + "'", x.count(0), 0);
    }

    // ---- section 1: tokens

    /** "NUMBERS (digits side by side, 4 at most)"; "1 .. one too long (at its first byte)" */
    private static void numbersOfFourDigits() {
        good("plain 0060 0009;", 1);
        fault("plain 00060 9;", 1, 6);
        fault("plain 60 00009;", 1, 9);
        fault("plain 9999 9;", 4, 6);
        fault("plain 10000 9;", 1, 6);
        fault("plain 99999999999999999999 9;", 1, 6);
        fault("plain 4294967297 9;", 1, 6);
    }

    /** "WORDS (a to z side by side, 8 at most)" */
    private static void wordsOfEightLetters() {
        fault("plainaaa 1 1;", 3, 0);
        fault("plainaaaa 1 1;", 1, 0);
        fault(" aaaaaaaaaaaaaaaaaaaaaaaaaaaaaaaaaaa", 1, 1);
        fault("plain 1 1; join 0 aaaaaaaa", 3, 18);
        fault("plain 1 1; join 0 aaaaaaaaa", 1, 18);
    }

    /** "1 a byte that begins none": the neighbours of the digits, the letters, the SEMICOLON and the blanks. */
    private static void bytesThatBeginNoToken() {
        for (char c : new char[] {0, 9, 11, 13, 31, 33, '/', ':', '<', '@', 'A', 'Z', '[', '`', '{', 127, 128, 160, 187, 255}) {
            fault("plain 1 1;" + c, 1, 10);
            fault("plain " + c + "1 1;", 1, 6);
            fault("plain 1" + c + " 1;", 1, 7);
            fault("plai" + c + "n 1 1;", 3, 0);
        }
        good("plain 1 1;\n;".substring(0, 11), 1);
    }

    /** Of all 256 bytes only letters, digits, SEMICOLONS and both blanks are none that begins none. */
    private static void bytesOfAllKinds() {
        for (int c = 0; c < 256; c++) {
            boolean blank = c == 32 || c == 10;
            boolean token = c >= '0' && c <= '9' || c == ';' || c >= 'a' && c <= 'z';
            RailwayHouse x = new RailwayHouse();
            x.feed(c << 24 | 0x202020, 0x20202020, 0x20202020, 0x20202020, 0x20202020);
            int due = blank ? -18 : !token ? -11 : c >= 'a' && c <= 'z' ? -13 : -12;
            Check.due("load of byte " + c, x.load(), due);
            Check.due("place of byte " + c, x.place(), blank ? 20 : 0);
        }
    }

    /** "blanks (32, 10) between" */
    private static void blanksBetween() {
        good(" \n plain \n\n 1\n1 ; \n", 1);
        fault("pla in 1 1;", 3, 0);
        fault("plain 6 0 1;", 4, 8);
        good("plain 6 9 ;", 1);
    }

    private static void noBlanksBetween() {
        good("plain1 1;point2 2;join0a1t;", 2);
        fault("plain11;", 2, 7);
    }

    /** "Statements, each ended by a SEMICOLON, as many as there are" */
    private static void statementsAsManyAsThereAre() {
        fault("plain 1 1", 2, 9);
        fault("plain 1 1;;", 2, 10);
        StringBuilder all = new StringBuilder();
        for (int i = 0; i < 24; i++) {
            all.append("plain 1 1;");
        }
        for (int i = 0; i < 24; i++) {
            all.append("stop ").append(i).append(" 7;");
            all.append("join ").append(i).append(" b ").append((i + 1) % 24).append(" a;");
        }
        for (int i = 0; i < 16; i++) {
            all.append("signal ").append(i).append(" b;");
        }
        // Both a text of 2000 bytes, the whole tape, and its last byte count.
        while (all.length() < 2000) {
            all.append(' ');
        }
        good(all.toString(), 24);
        fault(all.substring(0, 1999) + "p", 3, 1999);
        fault(all.substring(0, 1999) + ";", 2, 1999);
    }

    // ---- section 1: bounds of numbers

    /** "LENGTH L (1 to 60), LIMIT M (1 to 9)", "point L M: likewise" */
    private static void lengthsAndLimits() {
        for (String kind : new String[] {"plain", "point"}) {
            fault(kind + " 0 5;", 4, 6);
            good(kind + " 1 5;", 1);
            good(kind + " 60 5;", 1);
            fault(kind + " 61 5;", 4, 6);
            fault(kind + " 5 0;", 4, 8);
            good(kind + " 5 1;", 1);
            good(kind + " 5 9;", 1);
            fault(kind + " 5 10;", 4, 8);
        }
        RailwayHouse x = Check.house("plain 60 9;plain 1 1;point 60 9;point 1 1;");
        for (int s = 0; s < 4; s++) {
            Check.due("length", x.section(s, 1), s % 2 == 0 ? 60 : 1);
            Check.due("limit", x.section(s, 2), s % 2 == 0 ? 9 : 1);
        }
    }

    private static String repeated(String text, int times) {
        return text.repeat(times);
    }

    /** "(they are 0, 1, .., as they come, 24 at most)"; "7 the 25th SECTION .. (at the statement)" */
    private static void sectionsAtMost() {
        good(repeated("plain 1 1;", 24), 24);
        good(repeated("point 1 1;", 24), 24);
        fault(repeated("plain 1 1;", 24) + " plain 1 1;", 7, 241);
        fault(repeated("point 1 1;", 24) + "point 1 1;", 7, 240);
        fault(repeated("plain 1 1;", 25), 7, 240);
        RailwayHouse x = Check.house(repeated("plain 1 1;", 23) + "point 7 7;");
        Check.due("the last one", x.section(23, 0), 1);
        Check.due("the last one", x.section(23, 1), 7);
        Check.due("none more", x.section(24, 0), Check.UNKNOWN);
    }

    /** "a SIGNAL (0, 1, .., 16 at most)"; "7 .. the 17th SIGNAL (at the statement)" */
    private static void signalsAtMost() {
        StringBuilder row = new StringBuilder(repeated("plain 1 1;", 9));
        for (int i = 1; i < 9; i++) {
            row.append("join ").append(i - 1).append(" b ").append(i).append(" a;");
        }
        for (int i = 1; i < 9; i++) {
            row.append("signal ").append(i - 1).append(" b;signal ").append(i).append(" a;");
        }
        RailwayHouse x = Check.house(row.toString());
        Check.due("signals", x.count(1), 16);
        Check.due("the last one", x.signal(15, 0), 8);
        Check.due("the last one", x.signal(15, 1), 0);
        Check.due("none more", x.signal(16, 0), Check.UNKNOWN);
        fault(row + " signal 8 b;", 7, row.length() + 1);
        fault(row + "signal 9", 7, row.length());
        fault(row + "signal", 7, row.length());
    }

    /** "stop S N: a plain SECTION is at STATION N (0 to 7)" */
    private static void stationsOfSections() {
        RailwayHouse x = Check.house("plain 1 1;plain 1 1;plain 1 1;stop 0 0;stop 2 7;");
        Check.due("station", x.section(0, 3), 0);
        Check.due("no station", x.section(1, 3), Check.NONE);
        Check.due("station", x.section(2, 3), 7);
        fault("plain 1 1;stop 0 8;", 4, 17);
        fault("plain 1 1;stop 0 9999;", 4, 17);
    }

    /** "with ENDS a and b", "with ENDS t, l, r"; "3 a WORD that is .. no END of its SECTION" */
    private static void endsOfSections() {
        for (char c = 'a'; c <= 'z'; c++) {
            String plain = "plain 1 1;point 1 1;join 1 t 0 " + c + ";";
            String point = "plain 1 1;point 1 1;join 0 a 1 " + c + ";";
            if (c == 'a' || c == 'b') {
                good(plain, 2);
            } else {
                fault(plain, 3, 31);
            }
            if (c == 't' || c == 'l' || c == 'r') {
                good(point, 2);
            } else {
                fault(point, 3, 31);
            }
        }
        fault("plain 1 1;join 0 aa 0 b;", 3, 17);
        fault("point 1 1;join 0 tl 0 r;", 3, 17);
        fault("plain 1 1;plain 1 1;join 0 b 1 a;signal 0 t;", 3, 42);
    }

    /** "4 a NUMBER .. of a SECTION that there is not (yet)" */
    private static void sectionsThatThereAreNotYet() {
        for (String statement : new String[] {"join", "signal", "stop"}) {
            fault(statement + " 0 a;plain 1 1;", 4, statement.length() + 1);
            fault("plain 1 1;" + statement + " 1 a;plain 1 1;", 4, 11 + statement.length());
            fault("plain 1 1;" + statement + " 9999 a;", 4, 11 + statement.length());
        }
        fault("plain 1 1;join 0 a 1 a;plain 1 1;", 4, 19);
        good("plain 1 1;plain 1 1;join 0 a 1 a;", 2);
    }

    // ---- section 1: tokens that cannot stand there

    /** "2 .. the end (at the text's length), can't stand there": behind each TOKEN of each statement but the last. */
    private static void endOfTheText() {
        String[] statements = {"plain 1 1", "point 1 1", "join 0 a 1 b", "signal 0 b", "stop 0 7"};
        String head = "plain 1 1;plain 1 1;";
        for (String statement : statements) {
            String[] tokens = statement.split(" ");
            StringBuilder text = new StringBuilder(head);
            for (String token : tokens) {
                text.append(token);
                fault(text.toString(), 2, text.length());
                fault(text + " \n", 2, text.length() + 2);
                text.append(' ');
            }
        }
    }

    /** "2 it .. can't stand there": each TOKEN of each statement, replaced by each other kind of TOKEN. */
    private static void tokensOutOfPlace() {
        String[] statements = {"plain 1 1 ;", "point 1 1 ;", "join 0 a 1 b ;", "signal 0 b ;", "stop 0 7 ;"};
        String head = "plain 1 1;plain 1 1;";
        for (String statement : statements) {
            String[] tokens = statement.split(" ");
            StringBuilder before = new StringBuilder(head);
            for (String token : tokens) {
                for (String other : new String[] {"7", "plain", ";"}) {
                    if (kindOf(other) != kindOf(token)) {
                        fault(before + other, 2, before.length());
                    }
                }
                before.append(token).append(' ');
            }
        }
    }

    private static int kindOf(String token) {
        return token.equals(";") ? 0 : token.charAt(0) >= 'a' ? 1 : 2;
    }

    /** "FAULTS, of the first TOKEN that has one, of several the least" */
    private static void leastFaultOfOneToken() {
        // too long, and out of place
        fault("00000", 1, 0);
        fault("plain aaaaaaaaa", 1, 6);
        fault("plain 1 1 00000", 1, 10);
        // out of place, and no statement
        fault("plain a", 2, 6);
        // of a section that there is not, and would be no end's
        fault("point 1 1;signal 1", 4, 17);
        // no END of its SECTION, and the first one of this join is no matter then
        fault("plain 1 1;join 0 b 0 t;", 3, 21);
    }

    private static void firstTokenOfSeveral() {
        fault("plain 61 10 $", 4, 6);
        fault("plain 60 10 $", 4, 9);
        fault("plain 60 9 $", 1, 11);
        fault("plain 60 9 7", 2, 11);
        fault("plan $", 3, 0);
        fault("point 1 1;signal 0 x", 6, 17);
        fault("plain 1 1;signal 0 a;signal 0 a $", 5, 30);
        fault(repeated("plain 1 1;", 24) + "plain $", 7, 240);
    }

    /** "5 of join an END (at its letter) that is joined, or is the first one of this join" */
    private static void endsJoinedTwice() {
        String two = "plain 1 1;plain 1 1;join 0 b 1 a;";
        fault(two + "join 0 b 1 b;", 5, 40);
        fault(two + "join 1 a 0 a;", 5, 40);
        fault(two + "join 0 a 0 b;", 5, 44);
        fault(two + "join 1 b 1 a;", 5, 44);
        good(two + "join 0 a 1 b;", 2);
        fault("plain 1 1;join 0 b 0 b;", 5, 21);
        good("plain 1 1;join 0 b 0 a;", 1);
        fault("point 1 1;join 0 r 0 r;", 5, 21);
        good("point 1 1;join 0 r 0 l;", 1);
    }

    /** "of signal one that has a SIGNAL; of stop a SECTION (at its NUMBER) that is at a STATION" */
    private static void signalsAndStopsTwice() {
        String ring = "plain 1 1;join 0 a 0 b;";
        good(ring + "signal 0 a;signal 0 b;", 1);
        fault(ring + "signal 0 a;signal 0 a;", 5, 43);
        good("plain 1 1;plain 1 1;stop 0 3;stop 1 3;", 2);
        fault("plain 1 1;stop 0 3;stop 0 4;", 5, 24);
        fault("plain 1 1;stop 0 0;stop 0 8;", 5, 24);
    }

    /** "6 a SIGNAL or a stop at a point (at its NUMBER)" */
    private static void pointsWithoutSignalsAndStops() {
        fault("point 1 1;signal 0 t;", 6, 17);
        fault("point 1 1;signal 0", 6, 17);
        fault("point 1 1;stop 0 0;", 6, 15);
    }

    /** "Behind all, at the length: 8 no SECTION, or a SIGNAL at an END that is not joined." */
    private static void faultsAtTheLength() {
        fault("", 8, 0);
        fault(repeated(" ", 2000), 8, 2000);
        fault("plain 1 1;signal 0 a;", 8, 21);
        fault("plain 1 1;plain 1 1;join 0 a 1 a;signal 0 a;signal 0 b;signal 1 a;  ", 8, 68);
        good("plain 1 1;plain 1 1;signal 0 a;join 0 a 1 a;", 2);
        fault("plain 1 1;signal 0 a;;", 2, 21);
    }

    // ---- section 2

    private static String row(int sections) {
        StringBuilder all = new StringBuilder(repeated("plain 1 1;", sections));
        for (int i = 1; i < sections; i++) {
            all.append("join ").append(i - 1).append(" b ").append(i).append(" a;");
        }
        return all + "signal 0 b;";
    }

    private static String told(RailwayHouse x, int route) {
        StringBuilder all = new StringBuilder();
        all.append(x.route(route, 0)).append(' ').append(x.route(route, 1)).append(' ').append(x.route(route, 3)).append(" /");
        for (int k = 0; k < x.route(route, 2); k++) {
            all.append(' ').append(x.routeSection(route, k));
        }
        all.append(" /");
        for (int k = 0; k < x.route(route, 4); k++) {
            all.append(' ').append(x.routeNeed(route, k));
        }
        return all.toString();
    }

    private static RailwayHouse routes(String layout, String... due) {
        RailwayHouse x = Check.house(layout);
        Check.due("routes of " + layout, x.count(2), due.length);
        for (int r = 0; r < due.length; r++) {
            Check.dueText("route " + r + " of " + layout, told(x, r), due[r]);
        }
        return x;
    }

    /** "None is a WAY that .. has more than 8 SECTIONS": ended by a border, and by a SIGNAL. */
    private static void waysOfEightSections() {
        routes(row(2), "0 -9 -9 / 1 /");
        routes(row(9), "0 -9 -9 / 1 2 3 4 5 6 7 8 /");
        routes(row(10));
        routes(row(11) + "signal 8 b;", "0 1 9 / 1 2 3 4 5 6 7 8 /", "1 -9 -9 / 9 10 /");
        routes(row(11) + "signal 9 b;", "1 -9 -9 / 10 /");
        routes("plain 1 1;");
        routes("plain 1 1;plain 1 1;join 0 b 1 a;");
    }

    /** "None is a WAY that comes into a SECTION twice, or into S" */
    private static void waysThatComeTwice() {
        // round into S, by its other end; and S joined to itself
        routes("plain 1 1;plain 1 1;join 0 b 1 a;join 1 b 0 a;signal 0 b;");
        routes("plain 1 1;join 0 b 0 a;signal 0 b;");
        // a loop behind a point: into it a second time
        routes("plain 1 1;point 1 1;plain 1 1;join 0 b 1 t;join 1 l 2 a;join 2 b 1 r;signal 0 b;");
        // both legs of a point are joined to each other
        routes("plain 1 1;point 1 1;join 0 b 1 t;join 1 l 1 r;signal 0 b;");
        // one of two ways comes twice, the other one is there
        routes("plain 1 1;point 1 1;point 1 1;plain 1 1;join 0 b 1 t;join 1 l 2 l;join 2 t 3 a;join 3 b 2 r;signal 0 b;",
                "0 -9 -9 / 1 / 3 5");
    }

    /** "A WAY ends with the first SECTION that it leaves by an END with a SIGNAL .. or by one that is not joined" */
    private static void lastSignalsAndBorders() {
        routes(row(4) + "signal 1 b;signal 2 b;", "0 1 2 / 1 /", "1 2 3 / 2 /", "2 -9 -9 / 3 /");
        // a signal for the other direction does not end it
        routes(row(3) + "signal 1 a;signal 2 a;", "0 -9 -9 / 1 2 /", "1 -9 -9 / 0 /", "2 1 0 / 1 /");
        // a border at a point's own leg
        routes("plain 1 1;point 1 1;join 0 b 1 t;signal 0 b;", "0 -9 -9 / 1 / 2", "0 -9 -9 / 1 / 3");
    }

    /** "OVERLAP, with a LAST SIGNAL: the SECTION behind that, if it is neither S nor one of the WAY." */
    private static void overlaps() {
        routes(row(3) + "signal 1 b;", "0 1 2 / 1 /", "1 -9 -9 / 2 /");
        // S itself
        routes("plain 1 1;plain 1 1;join 0 b 1 a;join 1 b 0 a;signal 0 b;signal 1 b;", "0 1 -9 / 1 /", "1 0 -9 / 0 /");
        // one of the way
        routes("plain 1 1;point 1 1;plain 1 1;join 0 b 1 t;join 1 l 2 a;join 1 r 2 b;signal 0 b;signal 2 b;",
                "0 1 -9 / 1 2 / 2", "1 -9 -9 / 1 0 / 3");
    }

    /** "of the OVERLAP, if that is a point come into by l or r, that lie" */
    private static void needsOfOverlaps() {
        String head = "plain 1 1;plain 1 1;point 1 1;join 0 b 1 a;signal 0 b;signal 1 b;";
        routes(head + "join 1 b 2 t;", "0 1 2 / 1 /", "1 -9 -9 / 2 / 4", "1 -9 -9 / 2 / 5");
        routes(head + "join 1 b 2 l;", "0 1 2 / 1 / 4", "1 -9 -9 / 2 / 4");
        routes(head + "join 1 b 2 r;", "0 1 2 / 1 / 5", "1 -9 -9 / 2 / 5");
    }

    /** "whose leg (l, r) by which it does not go is joined to leg l or r of a point that is not of the WAY" */
    private static void flanksAreLegsOfOtherPoints() {
        String head = "plain 1 1;point 1 1;plain 1 1;point 1 1;plain 1 1;join 0 b 1 t;join 1 l 2 a;signal 0 b;";
        routes(head, "0 -9 -9 / 1 2 / 2", "0 -9 -9 / 1 / 3");
        routes(head + "join 1 r 4 a;", "0 -9 -9 / 1 2 / 2", "0 -9 -9 / 1 4 / 3");
        routes(head + "join 1 r 3 t;", "0 -9 -9 / 1 2 / 2", "0 -9 -9 / 1 3 / 3 6", "0 -9 -9 / 1 3 / 3 7");
        routes(head + "join 1 r 3 l;", "0 -9 -9 / 1 2 / 2 7", "0 -9 -9 / 1 3 / 3 6");
        routes(head + "join 1 r 3 r;", "0 -9 -9 / 1 2 / 2 6", "0 -9 -9 / 1 3 / 3 7");
        // come into by a leg: the other leg is looked at as well
        routes("plain 1 1;point 1 1;point 1 1;join 0 b 1 l;join 1 r 2 l;signal 0 b;", "0 -9 -9 / 1 / 2 5");
        // the other leg's point is of the way
        routes("plain 1 1;point 1 1;plain 1 1;point 1 1;join 0 b 1 t;join 1 l 2 a;join 2 b 3 l;join 1 r 3 r;signal 0 b;",
                "0 -9 -9 / 1 2 3 / 2 6", "0 -9 -9 / 1 3 / 3 7");
    }

    /** Eight points of a way, each with a flank of its own: 16 NEEDS, those of the way first. */
    private static void mostNeeds() {
        StringBuilder all = new StringBuilder("plain 1 1;" + repeated("point 1 1;", 16));
        all.append("join 0 b 1 t;signal 0 b;");
        for (int i = 1; i <= 8; i++) {
            all.append("join ").append(i).append(" r ").append(8 + i).append(i % 2 == 0 ? " l;" : " r;");
            if (i < 8) {
                all.append("join ").append(i).append(" l ").append(i + 1).append(" t;");
            }
        }
        RailwayHouse x = Check.house(all.toString());
        Check.due("needs", x.route(0, 4), 16);
        for (int i = 1; i <= 8; i++) {
            Check.due("need of the way", x.routeNeed(0, i - 1), 2 * i);
            Check.due("need of a flank", x.routeNeed(0, 7 + i), 2 * (8 + i) + (i % 2 == 0 ? 1 : 0));
        }
        Check.due("none more", x.routeNeed(0, 16), Check.NONE);
        Check.due("none ahead", x.routeNeed(0, -1), Check.NONE);
        Check.due("the last section", x.routeSection(0, 7), 8);
        Check.due("none more", x.routeSection(0, 8), Check.NONE);
        // Seven points with flanks, and an overlap that is a point: 15.
        StringBuilder seven = new StringBuilder("plain 1 1;" + repeated("point 1 1;", 15) + "plain 1 1;");
        seven.append("join 0 b 1 t;signal 0 b;signal 16 b;");
        for (int i = 1; i <= 7; i++) {
            seven.append("join ").append(i).append(" r ").append(7 + i).append(" r;join ").append(i).append(" l ");
            seven.append(i < 7 ? i + 1 + " t;" : "16 a;");
        }
        RailwayHouse y = Check.house(seven + "join 16 b 15 r;");
        Check.dueText("needs of the way, the overlap, the flanks", told(y, 0),
                "0 1 15 / 1 2 3 4 5 6 7 16 / 2 4 6 8 10 12 14 31 16 18 20 22 24 26 28");
    }

    /** "(A point comes once; what is needed twice alike is told where it came first.) A WAY that NEEDS a point in both lies is none." */
    private static void needsInBothLies() {
        // Both points of the way have one flank, by its leg l and by its leg r.
        String head = "plain 1 1;point 1 1;point 1 1;plain 1 1;point 1 1;join 0 b 1 t;join 1 l 2 t;join 2 l 3 a;signal 0 b;";
        routes(head + "join 1 r 4 l;", "0 -9 -9 / 1 2 3 / 2 4 9", "0 -9 -9 / 1 2 / 2 5 9", "0 -9 -9 / 1 4 / 3 8");
        routes(head + "join 1 r 4 l;join 2 r 4 r;", "0 -9 -9 / 1 2 4 / 2 5 9", "0 -9 -9 / 1 4 / 3 8 4");
        // The overlap's need is that of a flank: alike, told with the overlap; otherwise no way.
        String over = "plain 1 1;point 1 1;point 1 1;plain 1 1;point 1 1;join 0 b 1 t;join 1 l 2 t;join 2 l 3 a;"
                + "signal 0 b;signal 3 b;";
        routes(over + "join 3 b 4 l;join 1 r 4 r;", "0 1 4 / 1 2 3 / 2 4 8", "0 -9 -9 / 1 2 / 2 5 8",
                "0 -9 -9 / 1 4 / 3 9", "1 -9 -9 / 4 / 8 2");
        routes(over + "join 3 b 4 t;join 1 r 4 r;", "0 1 4 / 1 2 3 / 2 4 8", "0 -9 -9 / 1 2 / 2 5 8",
                "1 -9 -9 / 4 / 8 2", "1 -9 -9 / 4 1 0 / 9 3");
    }

    /** "by SIGNALS, of one SIGNAL l ahead of r where they part first" */
    private static void orderOfRoutes() {
        routes("plain 1 1;point 1 1;point 1 1;point 1 1;plain 1 1;join 0 b 1 t;join 1 l 2 t;join 1 r 3 t;join 2 r 4 a;"
                + "signal 4 a;signal 0 b;",
                "0 -9 -9 / 2 1 0 / 5 2",
                "1 -9 -9 / 1 2 / 2 4", "1 -9 -9 / 1 2 4 / 2 5", "1 -9 -9 / 1 3 / 3 6", "1 -9 -9 / 1 3 / 3 7");
    }

    /** "the first 40": five signals of 8 ways each have just as many, six have 8 too many. */
    private static void fortyRoutes() {
        Check.due("40 of 40", Check.house(gathered(5)).count(2), 40);
        RailwayHouse x = Check.house(gathered(6));
        Check.due("40 of 48", x.count(2), 40);
        Check.due("the last one", x.route(39, 0), 4);
        Check.dueText("the last one", told(x, 39), told(Check.house(gathered(5)), 39));
        Check.due("none more", x.route(40, 0), Check.UNKNOWN);
        Check.due("none more", x.set(40), Check.UNKNOWN);
        Check.due("none more", x.conflict(0, 40), Check.UNKNOWN);
        Check.due("the last one", x.conflict(0, 39) > 0);
    }

    /** Signals on tracks that are gathered to one by points, which comes into a tree of points with 8 ends. */
    private static String gathered(int signals) {
        StringBuilder all = new StringBuilder(repeated("plain 1 1;", 6) + repeated("point 1 1;", 12));
        all.append("join 0 b 6 l;join 1 b 6 r;join 2 b 7 r;join 3 b 8 r;join 4 b 9 r;join 5 b 10 r;");
        all.append("join 6 t 7 l;join 7 t 8 l;join 8 t 9 l;join 9 t 10 l;join 10 t 11 t;");
        all.append("join 11 l 12 t;join 11 r 13 t;join 12 l 14 t;join 12 r 15 t;join 13 l 16 t;join 13 r 17 t;");
        for (int i = 0; i < signals; i++) {
            all.append("signal ").append(5 - i).append(" b;");
        }
        return all.toString();
    }

    /** "1 a SECTION of both; 2 a SECTION of one is the OVERLAP of the other; 4 a point .. in two lies; 8 one SIGNAL. (With itself 0.)" */
    private static void conflictsOneByOne() {
        RailwayHouse row = Check.house(row(5) + "signal 1 b;signal 2 b;signal 3 b;");
        Check.due("none", row.conflict(0, 2), 0);
        Check.due("an overlap of the one", row.conflict(0, 1), 2);
        Check.due("an overlap of the other", row.conflict(1, 0), 2);
        Check.due("with itself", row.conflict(1, 1), 0);
        // from both sides into one section: a section of both alone
        RailwayHouse both = Check.house(row(3) + "signal 2 a;");
        Check.due("a section of both", both.conflict(0, 1), 1);
        // two tracks that end ahead of one point: its overlap in two lies alone
        RailwayHouse merge = Check.house("plain 9 9;plain 9 9;plain 9 9;plain 9 9;point 1 9;join 0 b 2 a;join 1 b 3 a;"
                + "join 2 b 4 l;join 3 b 4 r;signal 0 b;signal 1 b;signal 2 b;signal 3 b;");
        Check.due("a point in two lies", merge.conflict(0, 1), 4);
        Check.due("an overlap of both is no conflict", Check.house("plain 9 9;plain 9 9;plain 9 9;plain 9 9;plain 9 9;"
                + "join 0 b 2 a;join 1 b 3 a;join 2 b 4 a;join 3 b 4 b;signal 0 b;signal 1 b;signal 2 b;signal 3 b;")
                .conflict(0, 1), 0);
        // two ways of one signal that part at once have the point of both, in two lies
        Check.due("one signal", Check.house(Check.STATION).conflict(0, 1), 13);
    }

    // ---- promises 1 to 5

    /** "An empty tape, no layout, no timetable, no line; TIME 0." */
    private static void newObject() {
        RailwayHouse x = new RailwayHouse();
        for (int what = 0; what <= 14; what++) {
            Check.due("count " + what, x.count(what), 0);
        }
        Check.due("tape", x.end(0), 0);
        Check.due("tape", x.end(1), Check.OUTSIDE);
        Check.due("place", x.place(), Check.NONE);
        Check.due("section", x.section(0, 0), Check.UNKNOWN);
        Check.due("signal", x.signal(0, 0), Check.UNKNOWN);
        Check.due("route", x.route(0, 0), Check.UNKNOWN);
        Check.due("train", x.train(0, 0), Check.UNKNOWN);
        Check.due("hold", x.holdAt(0, 0), Check.UNKNOWN);
        Check.due("option", x.option(0, 0), Check.UNKNOWN);
        Check.due("turn", x.turn(0, 0), Check.NONE);
        Check.due("journey", x.journey(0, 1, 0), 0);
        Check.due("dispatch", x.dispatch(), 0);
        Check.due("clearLine", x.clearLine(), 0);
        Check.due("audit", x.audit(), 0);
        Check.due("sync", x.sync(), 0);
        for (int c = 0; c < 3; c++) {
            Check.due("in the vote", x.channel(c, 0), 1);
            Check.due("fault", x.channel(c, 1), 0);
        }
        Check.due("told as a cleared one", Told.future(new RailwayHouse()).equals(Told.future(cleared())));
    }

    private static RailwayHouse cleared() {
        RailwayHouse x = Check.house(Check.STATION);
        x.tick(1);
        x.set(0);
        x.tick(2);
        x.sync();
        x.station(3, 60, 9);
        x.run(20);
        x.stopAt(0, 1, 1, 1);
        x.line(0, 1, 1, 1, 1);
        x.fault(0, 1);
        x.force(0, 0, 3);
        x.force(1, 1, 3);
        x.block(1, true);
        x.feed(1, 2, 3, 4, 5);
        Check.due("clear tells the time", x.clear(), 3);
        return x;
    }

    /** "Twenty bytes come behind THE TAPE (2000 at most) .. how many it has. ROOM."; "keeps its first n bytes: n. OUTSIDE." */
    private static void feedAndEnd() {
        RailwayHouse x = new RailwayHouse();
        Check.due("end of an empty tape", x.end(0), 0);
        Check.due("end", x.end(1), Check.OUTSIDE);
        Check.due("end", x.end(-1), Check.OUTSIDE);
        // "plain 7 3;plain 8 4;" : each byte in its place
        Check.due("feed", x.feed(0x706c6169, 0x6e203720, 0x333b706c, 0x61696e20, 0x3820343b), 20);
        Check.due("end", x.end(21), Check.OUTSIDE);
        Check.due("end of all", x.end(20), 20);
        Check.due("feed", x.feed(-1, -1, -1, -1, -1), 40);
        Check.due("end", x.end(20), 20);
        Check.due("no byte comes back", x.end(40), Check.OUTSIDE);
        Check.due("load", x.load(), 2);
        Check.due("length", x.section(1, 1), 8);
        Check.due("limit", x.section(1, 2), 4);

        Twins twins = new Twins("tape", h -> Check.type(h, "plain 7 3;".repeat(2) + " ".repeat(1961)));
        twins.refuses("feed of 20 behind 1981", Check.ROOM, h -> h.feed(0, 0, 0, 0, 0));
        twins.does("end", 1980, h -> h.end(1980));
        twins.refuses("end", Check.OUTSIDE, h -> h.end(1981));
        twins.refuses("end", Check.OUTSIDE, h -> h.end(MIN));
        twins.refuses("end", Check.OUTSIDE, h -> h.end(MAX));
        twins.does("feed of 20 behind 1980", 2000, h -> h.feed(0x20202020, 0x20202020, 0x20202020, 0x20202020, 0x20202020));
        twins.refuses("feed of 20 behind 2000", Check.ROOM, h -> h.feed(0, 0, 0, 0, 0));
        twins.does("load", 2, h -> h.load());
        twins.does("feed again", 20, h -> h.feed(MIN, MAX, 0, -1, 1));
        twins.does("end in the middle", 7, h -> h.end(7));
        twins.does("feed behind that", 27, h -> h.feed(0, 0, 0, 0, 0));
        twins.end();
    }

    /** "THE TAPE, which is empty then, is THE LAYOUT: how many SECTIONS"; a FAULT: "all stays" */
    private static void loadEmptiesTheTape() {
        RailwayHouse x = new RailwayHouse();
        Check.due("load of one section", Check.load(x, "plain 1 1;"), 1);
        Check.due("tape", x.count(14), 0);
        Check.due("load of an empty tape", x.load(), -18);
        Check.due("the layout stays", x.count(0), 1);
        Check.type(x, "plain 1 1; plain");
        Check.due("load", x.load(), -12);
        Check.due("the tape stays", x.count(14), 16);
        Check.due("the layout stays", x.count(0), 1);
        x.end(10);
        Check.type(x, "point 2 2;");
        Check.due("load", x.load(), 2);
        Check.due("a smaller layout", Check.load(x, "point 3 3;"), 1);
        Check.due("no old section", x.section(1, 0), Check.UNKNOWN);
        Check.due("no old joint", x.section(0, 4), Check.NONE);
    }

    /** "The place of the FAULT of the latest load(); NONE." */
    private static void placeOfTheLatestLoad() {
        RailwayHouse x = new RailwayHouse();
        Check.due("no load yet", x.place(), Check.NONE);
        Check.type(x, "plain 1 1;!");
        x.load();
        Check.due("place", x.place(), 10);
        x.end(10);
        Check.due("the latest load's", x.place(), 10);
        x.tick(1);
        Check.due("load", x.load(), 1);
        Check.due("no fault", x.place(), Check.NONE);
        x.load();
        Check.due("place of an empty tape's fault", x.place(), 0);
        x.clear();
        Check.due("as at the beginning", x.place(), Check.NONE);
    }

    // ---- promises 6 to 11

    private static void tellSections() {
        Twins twins = new Twins("station", x -> Check.load(x, Check.STATION));
        RailwayHouse x = twins.one;
        Check.due("first", x.section(0, 0), 0);
        Check.due("last", x.section(5, 8), Check.NONE);
        Check.due("last", x.section(5, 7), 3);
        Check.due("r of a plain one", x.section(0, 6), Check.NONE);
        Check.due("r of a point", x.section(4, 6), 3 * 3 + 1);
        Check.due("signal at a of a point", x.section(1, 7), Check.NONE);
        Check.due("signal at b of a point", x.section(1, 8), Check.NONE);
        Check.due("station of a point", x.section(1, 3), Check.NONE);
        Check.due("an end that is not joined", x.section(5, 5), Check.NONE);
        for (int s : new int[] {MIN, -1, 6, 24, MAX}) {
            twins.refuses("section", Check.UNKNOWN, h -> h.section(s, 0));
            twins.refuses("section", Check.UNKNOWN, h -> h.section(s, 9));
        }
        for (int what : new int[] {MIN, -1, 9, MAX}) {
            twins.refuses("section", Check.OUTSIDE, h -> h.section(5, what));
        }
        twins.end();
        RailwayHouse point = Check.house("point 1 1;plain 1 1;join 0 r 1 b;");
        Check.due("t", point.section(0, 4), Check.NONE);
        Check.due("l", point.section(0, 5), Check.NONE);
        Check.due("r", point.section(0, 6), 3 + 1);
        Check.due("b", point.section(1, 5), 2);
    }

    private static void tellSignals() {
        Twins twins = new Twins("row", x -> Check.load(x, Check.ROW));
        twins.does("end", 1, x -> x.signal(0, 1));
        twins.does("number", 0, x -> x.signal(2, 3));
        for (int signal : new int[] {MIN, -1, 3, 16, MAX}) {
            twins.refuses("signal", Check.UNKNOWN, x -> x.signal(signal, 3));
            twins.refuses("signal", Check.UNKNOWN, x -> x.signal(signal, 4));
        }
        for (int what : new int[] {MIN, -1, 4, MAX}) {
            twins.refuses("signal", Check.OUTSIDE, x -> x.signal(2, what));
        }
        twins.end();
        RailwayHouse none = Check.house("plain 1 1;");
        Check.due("no signal", none.signal(0, 0), Check.UNKNOWN);
        Check.due("no route", none.route(0, 0), Check.UNKNOWN);
    }

    /** "SECTION k of a ROUTE. UNKNOWN; NONE: there is none such." and likewise its NEEDS */
    private static void tellRoutes() {
        Twins twins = new Twins("station", x -> Check.load(x, Check.STATION));
        for (int route : new int[] {MIN, -1, 8, 40, MAX}) {
            twins.refuses("route", Check.UNKNOWN, x -> x.route(route, 5));
            twins.refuses("routeSection", Check.UNKNOWN, x -> x.routeSection(route, -1));
            twins.refuses("routeNeed", Check.UNKNOWN, x -> x.routeNeed(route, -1));
            twins.refuses("conflict", Check.UNKNOWN, x -> x.conflict(route, 0));
            twins.refuses("conflict", Check.UNKNOWN, x -> x.conflict(7, route));
            twins.refuses("conflict", Check.UNKNOWN, x -> x.conflict(route, route));
        }
        for (int what : new int[] {MIN, -1, 5, MAX}) {
            twins.refuses("route", Check.OUTSIDE, x -> x.route(7, what));
        }
        for (int k : new int[] {MIN, -1, 2, 8, 16, MAX}) {
            twins.does("routeSection", Check.NONE, x -> x.routeSection(7, k));
            twins.does("routeNeed", Check.NONE, x -> x.routeNeed(0, k));
        }
        twins.does("last signal of a way to a border", Check.NONE, x -> x.route(7, 1));
        twins.does("its overlap", Check.NONE, x -> x.route(7, 3));
        twins.does("its last section", 0, x -> x.routeSection(7, 1));
        twins.does("its only need", 3, x -> x.routeNeed(7, 0));
        twins.does("no need more", Check.NONE, x -> x.routeNeed(7, 1));
        twins.does("no need at all", Check.NONE, x -> Check.house(Check.ROW).routeNeed(0, 0));
        twins.end();
    }
}
