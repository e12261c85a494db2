import java.util.ArrayList;
import java.util.List;
import java.util.Random;

/** Promises 36 to 45: stations, runs, journeys (against a search through all of them), seats. */
public final class TimetableTest {
    public static void main(String[] args) {
        stationsAndRuns();
        oneJourney();
        changesAndFares();
        sameThree();
        sameArrival();
        noJourney();
        fourLegs();
        refusedJourneys();
        seats();
        seatsInTime();
        roomForHolds();
        againstAllJourneys();
        Check.end("TimetableTest");
    }

    private static void stationsAndRuns() {
        RailwayHouse x = new RailwayHouse();
        Check.due("station", x.station(-1, 99, 0), Check.UNKNOWN);
        Check.due("station", x.station(8, 0, 0), Check.UNKNOWN);
        Check.due("station", x.station(7, -1, 0), Check.OUTSIDE);
        Check.due("station", x.station(7, 61, 0), Check.OUTSIDE);
        Check.due("station", x.station(7, 0, -1), Check.OUTSIDE);
        Check.due("station", x.station(7, 0, 10), Check.OUTSIDE);
        Check.due("station", x.station(7, 60, 9), 1);
        Check.due("run", x.run(0), Check.OUTSIDE);
        Check.due("run", x.run(21), Check.OUTSIDE);
        for (int i = 0; i < 12; i++) {
            Check.due("run", x.run(20), i);
        }
        Check.due("run", x.run(1), Check.ROOM);
        Check.due("run", x.run(0), Check.OUTSIDE);
        Check.due("runs", x.count(10), 12);
        Check.due("stopAt", x.stopAt(12, 0, 0, 0), Check.UNKNOWN);
        Check.due("stopAt", x.stopAt(-1, 0, 0, 0), Check.UNKNOWN);
        Check.due("stopAt", x.stopAt(0, 8, -1, 0), Check.UNKNOWN);
        Check.due("stopAt", x.stopAt(0, -1, 0, 0), Check.UNKNOWN);
        Check.due("stopAt", x.stopAt(0, 0, -1, 0), Check.OUTSIDE);
        Check.due("stopAt", x.stopAt(0, 0, 0, 10001), Check.OUTSIDE);
        Check.due("stopAt", x.stopAt(0, 0, 10001, 10001), Check.OUTSIDE);
        Check.due("stopAt", x.stopAt(0, 0, 5, 4), Check.OUTSIDE);
        Check.due("stopAt", x.stopAt(0, 0, 5, 7), 1);
        Check.due("stopAt", x.stopAt(0, 0, 6, 8), Check.OUTSIDE);
        for (int i = 2; i <= 8; i++) {
            Check.due("stopAt", x.stopAt(0, 0, 7, 7), i);
        }
        Check.due("stopAt", x.stopAt(0, 0, 10000, 10000), Check.ROOM);
        Check.due("stopAt", x.stopAt(0, 0, 6, 6), Check.OUTSIDE);
        Check.due("stopAt", x.stopAt(1, 0, 0, 10000), 1);
        Check.due("stopAt", x.stopAt(1, 0, 10000, 10000), 2);
    }

    private static void stops(RailwayHouse x, int run, int... stationsAndTimes) {
        for (int i = 0; i < stationsAndTimes.length; i += 3) {
            Check.due("stopAt", x.stopAt(run, stationsAndTimes[i], stationsAndTimes[i + 1], stationsAndTimes[i + 2]), i / 3 + 1);
        }
    }

    /** An option as text: arrival, changes, fare, legs; then each leg. */
    private static String option(RailwayHouse x, int k) {
        StringBuilder all = new StringBuilder();
        all.append(x.option(k, 0)).append(' ').append(x.option(k, 1)).append(' ').append(x.option(k, 2));
        for (int j = 0; j < x.option(k, 3); j++) {
            all.append(" / ").append(x.leg(k, j, 0)).append(' ').append(x.leg(k, j, 1)).append(' ').append(x.leg(k, j, 2));
        }
        return all.toString();
    }

    private static void options(RailwayHouse x, int from, int to, int time, String... due) {
        Check.due("journey", x.journey(from, to, time), due.length);
        for (int k = 0; k < due.length; k++) {
            Check.dueText("option " + k, option(x, k), due[k]);
        }
        Check.due("no option more", x.option(due.length, 0), Check.UNKNOWN);
    }

    private static void oneJourney() {
        RailwayHouse x = new RailwayHouse();
        x.run(1);
        stops(x, 0, 0, 5, 10, 1, 20, 20, 0, 25, 30, 2, 40, 40);
        options(x, 0, 2, 0, "40 0 100 / 0 0 3");
        options(x, 0, 2, 10, "40 0 100 / 0 0 3");
        options(x, 0, 2, 11, "40 0 100 / 0 2 3");
        options(x, 0, 2, 31);
        options(x, 0, 1, 10, "20 0 100 / 0 0 1");
        options(x, 2, 0, 0);
    }

    private static void changesAndFares() {
        RailwayHouse x = new RailwayHouse();
        x.station(1, 5, 4);
        x.station(2, 5, 9);
        for (int i = 0; i < 4; i++) {
            x.run(1);
        }
        stops(x, 0, 0, 0, 10, 1, 20, 21, 2, 90, 90);
        stops(x, 1, 1, 20, 25, 2, 30, 30);
        stops(x, 2, 1, 20, 24, 2, 28, 28);
        stops(x, 3, 0, 0, 10, 2, 95, 95);
        options(x, 0, 2, 0, "30 1 470 / 0 0 1 / 1 0 1", "90 0 370 / 0 0 2");
        x.station(1, 4, 0);
        options(x, 0, 2, 0, "28 1 470 / 0 0 1 / 2 0 1", "90 0 370 / 0 0 2");
        x.station(1, 6, 0);
        options(x, 0, 2, 0, "90 0 370 / 0 0 2");
    }

    /** A dearer one that comes early, a cheaper one with a change that comes late, all of them options. */
    private static void fourLegs() {
        RailwayHouse x = new RailwayHouse();
        for (int i = 0; i < 8; i++) {
            x.station(i, 0, i);
        }
        for (int i = 0; i < 5; i++) {
            x.run(1);
        }
        stops(x, 0, 0, 0, 1, 1, 2, 2);
        stops(x, 1, 1, 2, 2, 2, 3, 3);
        stops(x, 2, 2, 3, 3, 3, 4, 4);
        stops(x, 3, 3, 4, 4, 4, 5, 5);
        stops(x, 4, 4, 5, 5, 5, 6, 6);
        options(x, 0, 4, 0, "5 3 520 / 0 0 1 / 1 0 1 / 2 0 1 / 3 0 1");
        options(x, 0, 5, 0);
        Check.due("the same run is no other one", x.stopAt(0, 0, 7, 7), 3);
        Check.due("stop", x.stopAt(0, 7, 8, 8), 4);
        options(x, 0, 7, 0, "8 0 310 / 0 0 3");
    }

    private static void sameThree() {
        RailwayHouse x = new RailwayHouse();
        for (int i = 0; i < 4; i++) {
            x.run(1);
        }
        stops(x, 3, 0, 0, 10, 1, 20, 20, 2, 30, 30);
        stops(x, 2, 0, 0, 10, 2, 30, 30);
        stops(x, 1, 0, 0, 9, 0, 10, 10, 2, 30, 30);
        options(x, 0, 2, 0, "30 0 100 / 1 0 2");
        options(x, 0, 2, 10, "30 0 100 / 1 1 2");
        x.station(1, 0, 0);
        stops(x, 0, 1, 20, 20, 2, 25, 25, 2, 25, 25);
        options(x, 0, 2, 0, "25 1 200 / 3 0 1 / 0 0 1", "30 0 100 / 1 0 2");
    }

    /** With the same arrival fewer changes are told first, though they are dearer; a dearer one with as many goes. */
    private static void sameArrival() {
        RailwayHouse x = new RailwayHouse();
        x.station(1, 5, 9);
        for (int i = 0; i < 8; i++) {
            x.run(1);
        }
        stops(x, 0, 0, 0, 10, 1, 20, 20);
        stops(x, 1, 1, 30, 30, 2, 100, 100);
        stops(x, 2, 0, 0, 10, 3, 20, 20);
        stops(x, 3, 3, 25, 25, 4, 35, 35);
        stops(x, 4, 4, 40, 40, 2, 100, 100);
        options(x, 0, 2, 0, "100 1 740 / 0 0 1 / 1 0 1", "100 2 300 / 2 0 1 / 3 0 1 / 4 0 1");
        x.stopAt(2, 5, 50, 50);
        stops(x, 5, 5, 54, 54, 2, 100, 100);
        options(x, 0, 2, 0, "100 1 740 / 0 0 1 / 1 0 1", "100 2 300 / 2 0 1 / 3 0 1 / 4 0 1");
        stops(x, 6, 5, 55, 55, 2, 100, 100);
        options(x, 0, 2, 0, "100 1 200 / 2 0 2 / 6 0 1");
    }

    private static void noJourney() {
        RailwayHouse x = new RailwayHouse();
        x.run(1);
        stops(x, 0, 0, 0, 1, 1, 5, 5);
        options(x, 0, 1, 0, "5 0 100 / 0 0 1");
        Check.due("refused", x.journey(0, 0, 0), Check.OUTSIDE);
        Check.dueText("a refused one changes nothing", option(x, 0), "5 0 100 / 0 0 1");
        x.stopAt(0, 2, 6, 6);
        Check.dueText("the latest journey stays", option(x, 0), "5 0 100 / 0 0 1");
        options(x, 1, 0, 0);
    }

    private static void refusedJourneys() {
        RailwayHouse x = new RailwayHouse();
        Check.due("journey", x.journey(-1, 0, -1), Check.UNKNOWN);
        Check.due("journey", x.journey(0, 8, 0), Check.UNKNOWN);
        Check.due("journey", x.journey(8, 8, 0), Check.UNKNOWN);
        Check.due("journey", x.journey(0, 1, -1), Check.OUTSIDE);
        Check.due("journey", x.journey(0, 1, 10001), Check.OUTSIDE);
        Check.due("journey", x.journey(3, 3, 0), Check.OUTSIDE);
        Check.due("journey", x.journey(0, 1, 10000), 0);
        Check.due("option", x.option(0, 0), Check.UNKNOWN);
        Check.due("leg", x.leg(0, 0, 9), Check.UNKNOWN);
        x.run(1);
        stops(x, 0, 0, 0, 0, 1, 10000, 10000);
        Check.due("journey", x.journey(0, 1, 0), 1);
        Check.due("option", x.option(-1, 9), Check.UNKNOWN);
        Check.due("option", x.option(0, 4), Check.OUTSIDE);
        Check.due("option", x.option(0, -1), Check.OUTSIDE);
        Check.due("leg", x.leg(0, 1, 0), Check.NONE);
        Check.due("leg", x.leg(0, -1, 0), Check.NONE);
        Check.due("leg", x.leg(0, 1, 3), Check.OUTSIDE);
        Check.due("leg", x.leg(0, 0, -1), Check.OUTSIDE);
        Check.due("leg", x.leg(1, 0, 0), Check.UNKNOWN);
    }

    private static void seats() {
        RailwayHouse x = new RailwayHouse();
        x.run(2);
        stops(x, 0, 0, 0, 0, 1, 1, 1, 2, 2, 2, 3, 3, 3);
        Check.due("hold", x.hold(1, 0, 1, -1), Check.UNKNOWN);
        Check.due("hold", x.hold(0, 0, 4, 0), Check.UNKNOWN);
        Check.due("hold", x.hold(0, -1, 1, 0), Check.UNKNOWN);
        Check.due("hold", x.hold(0, 1, 1, 0), Check.OUTSIDE);
        Check.due("hold", x.hold(0, 2, 1, 0), Check.OUTSIDE);
        Check.due("hold", x.hold(0, 0, 1, -1), Check.OUTSIDE);
        Check.due("hold", x.hold(0, 0, 1, 1000001), Check.OUTSIDE);
        Check.due("hold", x.hold(0, 1, 2, 1000000), 0);
        Check.due("hold", x.hold(0, 0, 1, 0), 1);
        Check.due("hold", x.hold(0, 2, 3, 0), 2);
        Check.due("hold", x.hold(0, 0, 3, 0), 3);
        int[] due = {0, 0, 0, 1};
        for (int h = 0; h < 4; h++) {
            Check.due("seat", x.holdAt(h, 0), due[h]);
        }
        Check.due("no seat", x.hold(0, 1, 2, 0), Check.STATE);
        Check.due("give", x.give(0), 1);
        Check.due("hold", x.hold(0, 1, 2, 0), 4);
        Check.due("seat", x.holdAt(4, 0), 0);
        Check.due("state", x.holdAt(0, 1), 2);
        Check.due("state", x.holdAt(4, 1), 0);
        Check.due("pay", x.pay(4), 1);
        Check.due("state", x.holdAt(4, 1), 1);
        Check.due("pay", x.pay(4), Check.STATE);
        Check.due("pay", x.pay(0), Check.STATE);
        Check.due("give", x.give(0), Check.STATE);
        Check.due("pay", x.pay(5), Check.UNKNOWN);
        Check.due("give", x.give(-1), Check.UNKNOWN);
        Check.due("holdAt", x.holdAt(5, 9), Check.UNKNOWN);
        Check.due("holdAt", x.holdAt(0, 3), Check.OUTSIDE);
        Check.due("holdAt", x.holdAt(0, -1), Check.OUTSIDE);
        Check.due("run", x.holdAt(4, 2), 0);
        Check.due("not gone", x.count(11), 4);
        Check.due("came", x.count(12), 5);
        Check.due("a paid one is given back", x.give(4), 1);
        Check.due("not gone", x.count(11), 3);
        x.run(1);
        stops(x, 1, 0, 0, 0, 1, 1, 1);
        Check.due("another run's seats", x.hold(1, 0, 1, 0), 5);
        Check.due("seat", x.holdAt(5, 0), 0);
        Check.due("run", x.holdAt(5, 2), 1);
        Check.due("no seat", x.hold(1, 0, 1, 0), Check.STATE);
    }

    private static void seatsInTime() {
        RailwayHouse x = Check.house("plain 1 1;");
        x.run(5);
        stops(x, 0, 0, 0, 0, 1, 1, 1);
        x.hold(0, 0, 1, 3);
        x.hold(0, 0, 1, 3);
        x.hold(0, 0, 1, 0);
        x.hold(0, 0, 1, 4);
        x.pay(1);
        Check.due("it counts till a tick", x.holdAt(2, 1), 0);
        x.tick(1);
        Check.due("gone", x.holdAt(2, 1), 2);
        x.tick(1);
        Check.due("it counts", x.holdAt(0, 1), 0);
        x.tick(1);
        Check.due("gone", x.holdAt(0, 1), 2);
        Check.due("paid", x.holdAt(1, 1), 1);
        Check.due("it counts", x.holdAt(3, 1), 0);
        Check.due("not gone", x.count(11), 2);
        Check.load(x, "plain 1 1;");
        x.tick(3);
        Check.due("it counts: the time began anew", x.holdAt(3, 1), 0);
        x.tick(1);
        Check.due("gone", x.holdAt(3, 1), 2);
    }

    private static void roomForHolds() {
        RailwayHouse x = new RailwayHouse();
        for (int r = 0; r < 4; r++) {
            x.run(20);
            stops(x, r, 0, 0, 0, 1, 1, 1);
        }
        for (int i = 0; i < 60; i++) {
            Check.due("hold", x.hold(i / 20, 0, 1, 0), i);
        }
        Check.due("no seat is ahead of no room", x.hold(0, 0, 1, 0), Check.STATE);
        Check.due("60 are not gone", x.hold(3, 0, 1, 0), Check.ROOM);
        Check.due("give", x.give(0), 1);
        Check.due("hold", x.hold(3, 0, 1, 0), 60);
        // 400 in all take more calls than one object has, but for those that end in a tick.
        RailwayHouse y = Check.house("plain 1 1;");
        for (int r = 0; r < 3; r++) {
            y.run(20);
            stops(y, r, 0, 0, 0, 1, 1, 1);
        }
        for (int i = 0; i < 400; i++) {
            Check.due("hold", y.hold(i / 20 % 3, 0, 1, 0), i);
            if (i % 60 == 59) {
                y.tick(1);
            }
        }
        y.tick(1);
        Check.due("400 came", y.hold(0, 0, 1, 0), Check.ROOM);
        Check.due("came", y.count(12), 400);
        Check.due("not gone", y.count(11), 0);
    }

    // ---- all journeys, one by one

    private static final class Way {
        int[] legs;
        int arrival;
        int changes;
        int fare;
    }

    private static int[][][] runs;
    private static int[] change;
    private static int[] zone;
    private static List<Way> all;

    private static void againstAllJourneys() {
        Random random = new Random(11);
        int found = 0;
        for (int run = 0; run < 400; run++) {
            RailwayHouse x = new RailwayHouse();
            int stations = 3 + random.nextInt(4);
            int span = run % 2 == 0 ? 30 : 100;
            change = new int[8];
            zone = new int[8];
            for (int s = 0; s < 8; s++) {
                change[s] = random.nextInt(6);
                zone[s] = random.nextInt(10);
                x.station(s, change[s], zone[s]);
            }
            runs = new int[4 + random.nextInt(5)][][];
            for (int r = 0; r < runs.length; r++) {
                x.run(1);
                runs[r] = new int[run % 5 == 0 ? random.nextInt(9) : 3 + random.nextInt(3)][];
                int time = random.nextInt(span);
                for (int i = 0; i < runs[r].length; i++) {
                    int arrival = time + random.nextInt(6);
                    int departure = arrival + random.nextInt(3);
                    runs[r][i] = new int[] {random.nextInt(stations), arrival, departure};
                    x.stopAt(r, runs[r][i][0], arrival, departure);
                    time = departure;
                }
            }
            for (int ask = 0; ask < 4; ask++) {
                int from = random.nextInt(stations);
                int to = (from + 1 + random.nextInt(stations - 1)) % stations;
                int time = random.nextInt(span);
                List<Way> best = search(from, to, time);
                found += best.size();
                Check.due("options of run " + run, x.journey(from, to, time), best.size());
                for (int k = 0; k < best.size(); k++) {
                    Check.dueText("option " + k + " of run " + run, option(x, k), told(best.get(k)));
                }
            }
        }
        Check.due("there were enough", found > 1000);
    }

    private static String told(Way way) {
        StringBuilder text = new StringBuilder();
        text.append(way.arrival).append(' ').append(way.changes).append(' ').append(way.fare);
        for (int i = 0; i < way.legs.length; i += 3) {
            text.append(" / ").append(way.legs[i]).append(' ').append(way.legs[i + 1]).append(' ').append(way.legs[i + 2]);
        }
        return text.toString();
    }

    private static List<Way> search(int from, int to, int time) {
        all = new ArrayList<>();
        extend(new ArrayList<>(), from, to, time);
        List<Way> best = new ArrayList<>();
        for (Way way : all) {
            boolean kept = true;
            for (Way other : all) {
                kept = kept && !isAhead(other, way);
            }
            if (kept) {
                best.add(way);
            }
        }
        best.sort((a, b) -> a.arrival != b.arrival ? a.arrival - b.arrival
                : a.changes != b.changes ? a.changes - b.changes : a.fare - b.fare);
        return best;
    }

    /** Whether a way keeps another one from being an option: better, or the same three and first by its legs. */
    private static boolean isAhead(Way a, Way b) {
        if (a.arrival > b.arrival || a.changes > b.changes || a.fare > b.fare) {
            return false;
        }
        if (a.arrival < b.arrival || a.changes < b.changes || a.fare < b.fare) {
            return true;
        }
        for (int i = 0; i < a.legs.length; i++) {
            if (a.legs[i] != b.legs[i]) {
                return a.legs[i] < b.legs[i];
            }
        }
        return false;
    }

    private static void extend(List<int[]> legs, int from, int to, int time) {
        if (legs.size() == 4) {
            return;
        }
        int before = legs.isEmpty() ? -1 : legs.get(legs.size() - 1)[0];
        for (int r = 0; r < runs.length; r++) {
            for (int i = 0; i < runs[r].length && r != before; i++) {
                if (runs[r][i][0] != from || runs[r][i][2] < time) {
                    continue;
                }
                for (int j = i + 1; j < runs[r].length; j++) {
                    legs.add(new int[] {r, i, j});
                    int station = runs[r][j][0];
                    if (station == to) {
                        keep(legs);
                    }
                    extend(legs, station, to, runs[r][j][1] + change[station]);
                    legs.remove(legs.size() - 1);
                }
            }
        }
    }

    private static void keep(List<int[]> legs) {
        Way way = new Way();
        way.legs = new int[legs.size() * 3];
        for (int i = 0; i < legs.size(); i++) {
            int[] leg = legs.get(i);
            System.arraycopy(leg, 0, way.legs, 3 * i, 3);
            way.fare += 100 + 30 * Math.abs(zone[runs[leg[0]][leg[1]][0]] - zone[runs[leg[0]][leg[2]][0]]);
            way.arrival = runs[leg[0]][leg[2]][1];
        }
        way.changes = legs.size() - 1;
        all.add(way);
    }
}
