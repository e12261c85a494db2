/**
 * All that a house tells: what it answers now, and what it goes on to answer. Two houses that tell the same
 * in both are the same, so what a refused call has left behind shows up here. (It asks more often than the
 * 512 calls that the document promises; this program does not count them.)
 */
final class Told {
    private Told() {
    }

    /** Every answer that can be had without changing anything. */
    static String all(RailwayHouse x) {
        return "place " + x.place() + " " + allButPlace(x);
    }

    /** Likewise, but for the place of a fault, the one thing that a refused load() changes. */
    static String allButPlace(RailwayHouse x) {
        StringBuilder text = new StringBuilder("counts");
        for (int i = 0; i <= 14; i++) {
            put(text, x.count(i));
        }
        put(text, x.audit());
        tellLayout(x, text);
        tellChannels(x, text);
        tellTrains(x, text);
        tellTimetable(x, text);
        return text.toString();
    }

    private static void put(StringBuilder text, int answer) {
        text.append(' ').append(answer);
    }

    private static void tellLayout(RailwayHouse x, StringBuilder text) {
        for (int s = 0; s < x.count(0); s++) {
            text.append(" section");
            for (int what = 0; what <= 8; what++) {
                put(text, x.section(s, what));
            }
            put(text, x.holder(s));
            put(text, x.used(0, s));
            put(text, x.used(1, s));
            put(text, x.lie(s));
            put(text, x.trainOn(s));
        }
        for (int i = 0; i < x.count(1); i++) {
            text.append(" signal");
            for (int what = 0; what <= 3; what++) {
                put(text, x.signal(i, what));
            }
        }
        for (int r = 0; r < x.count(2); r++) {
            text.append(" route");
            for (int what = 0; what <= 4; what++) {
                put(text, x.route(r, what));
            }
            for (int k = 0; k <= x.route(r, 2); k++) {
                put(text, x.routeSection(r, k));
            }
            for (int k = 0; k <= x.route(r, 4); k++) {
                put(text, x.routeNeed(r, k));
            }
        }
    }

    private static void tellChannels(RailwayHouse x, StringBuilder text) {
        for (int c = 0; c < 3; c++) {
            text.append(" channel");
            put(text, x.channel(c, 0));
            put(text, x.channel(c, 1));
            for (int r = 0; r < x.count(2); r++) {
                text.append(" /").append(Check.routeIn(x, c, r));
            }
        }
    }

    private static void tellTrains(RailwayHouse x, StringBuilder text) {
        for (int t = 0; t < x.count(5); t++) {
            text.append(" train");
            for (int what = 0; what <= 6; what++) {
                put(text, x.train(t, what));
            }
            put(text, x.leave(t));
        }
    }

    private static void tellTimetable(RailwayHouse x, StringBuilder text) {
        for (int h = 0; h < x.count(12); h++) {
            text.append(" hold");
            for (int what = 0; what <= 2; what++) {
                put(text, x.holdAt(h, what));
            }
        }
        for (int k = 0; x.option(k, 0) >= 0; k++) {
            text.append(" option");
            for (int what = 0; what <= 3; what++) {
                put(text, x.option(k, what));
            }
            for (int j = 0; j <= x.option(k, 3); j++) {
                for (int what = 0; what <= 2; what++) {
                    put(text, x.leg(k, j, what));
                }
            }
        }
        for (int k = 0; k <= 7; k++) {
            text.append(" turn");
            for (int what = 0; what <= 2; what++) {
                put(text, x.turn(k, what));
            }
        }
    }

    /** What a house answers from now on to calls that bring to light what cannot be asked for; it is spent then. */
    static String future(RailwayHouse x) {
        StringBuilder text = new StringBuilder(allButPlace(x));
        askForTables(x, text);
        for (int i = 0; i < 4; i++) {
            put(text.append("\ntick"), x.tick(1));
            text.append(allButPlace(x));
        }
        askForTheYard(x, text);
        put(text.append("\nreset"), x.reset());
        put(text, x.tick(4));
        text.append(allButPlace(x));
        put(text.append("\npower"), x.cut());
        put(text, x.start());
        text.append(allButPlace(x));
        for (int i = 0; i < 3; i++) {
            put(text.append("\nset"), x.tick(2));
            for (int r = 0; r < x.count(2); r++) {
                put(text, x.set(r));
            }
            text.append(allButPlace(x));
        }
        put(text.append("\nload"), x.load());
        text.append(all(x));
        put(text.append("\nclear"), x.clear());
        return text.append(all(x)).toString();
    }

    private static void askForTables(RailwayHouse x, StringBuilder text) {
        for (int from = 0; from < 8; from++) {
            for (int to = 0; to < 8; to++) {
                put(text.append("\njourney"), x.journey(from, to, 0));
                tellTimetable(x, text);
            }
        }
        for (int run = 0; run < x.count(10); run++) {
            put(text.append("\nstop"), x.stopAt(run, 7, 10000, 10000));
        }
        // One hold more than a run can have seats: the answers tell how many of them are left.
        for (int run = 0; run < x.count(10); run++) {
            for (int n = 0; n < 21; n++) {
                put(text.append(" hold"), x.hold(run, 0, 1, 7));
            }
        }
        text.append(allButPlace(x));
        put(text.append("\ndispatch"), x.dispatch());
        text.append(allButPlace(x));
    }

    private static void askForTheYard(RailwayHouse x, StringBuilder text) {
        for (int s = 0; s < x.count(0); s++) {
            put(text.append(" block"), x.block(s, false));
        }
        for (int t = 0; t < x.count(5); t++) {
            put(text.append(" stand"), x.stand(t, false));
        }
        for (int s = 0; s < x.count(0); s++) {
            put(text.append(" enter"), x.enter(s, 2, 3, 1, 4000 + s));
        }
    }
}
