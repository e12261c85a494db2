import java.util.function.Consumer;

/**
 * The boundary cases of sections 9 THE TIMETABLE and 10 A SINGLE LINE and of promises 36 to 51, each sentence with a
 * test of its own; behind each refused call all is told as it was.
 */
public final class BoundsTableTest {
    private static final int MIN = Integer.MIN_VALUE, MAX = Integer.MAX_VALUE;

    public static void main(String[] args) {
        stations();
        changeTimes();
        zones();
        seatsOfRuns();
        twelveRuns();
        eightStops();
        timesOfStops();
        stopsOfNothing();
        journeyTimes();
        journeysFromAndTo();
        noJourney();
        oneToFourLegs();
        runsWithoutALeg();
        optionsOfTheLatestJourney();
        orderOfOptions();
        tellLegs();
        holdsOfStops();
        holdsUntil();
        seatsByParts();
        sixtyHolds();
        fourHundredHolds();
        paidAndGivenBack();
        tellHolds();
        numbersOfTheLine();
        sevenTrains();
        emptyLine();
        threeApart();
        behindDue();
        turnsOfTheLatestDispatch();
        counts();
        clearAll();
        loadKeepsTheTimetable();
        Check.end("BoundsTableTest");
    }

    private static RailwayHouse house(Consumer<RailwayHouse> past) {
        RailwayHouse x = new RailwayHouse();
        past.accept(x);
        return x;
    }

    /** A run with stops, told as station, arrival, departure each. */
    private static int run(RailwayHouse x, int seats, int... stops) {
        int run = x.run(seats);
        for (int i = 0; i < stops.length; i += 3) {
            Check.due("stopAt", x.stopAt(run, stops[i], stops[i + 1], stops[i + 2]), i / 3 + 1);
        }
        return run;
    }

    // ---- stations

    /** "CHANGE time and ZONE of a STATION: 1. UNKNOWN (0 to 7); OUTSIDE.": "(0 to 60, 5 at first), a ZONE (0 to 9, 0 at first)" */
    private static void stations() {
        Twins twins = new Twins("station", x -> run(x, 1, 0, 0, 0, 7, 1, 1));
        twins.does("the first one", 1, x -> x.station(0, 0, 0));
        twins.does("the last one", 1, x -> x.station(7, 60, 9));
        for (int station : new int[] {MIN, -1, 8, MAX}) {
            twins.refuses("station " + station, Check.UNKNOWN, x -> x.station(station, 0, 0));
            twins.refuses("station " + station, Check.UNKNOWN, x -> x.station(station, 61, 10));
        }
        for (int change : new int[] {MIN, -1, 61, MAX}) {
            twins.refuses("change " + change, Check.OUTSIDE, x -> x.station(7, change, 0));
        }
        for (int zone : new int[] {MIN, -1, 10, MAX}) {
            twins.refuses("zone " + zone, Check.OUTSIDE, x -> x.station(7, 0, zone));
        }
        twins.end();
    }

    /** "departing not before that one's arrival and the CHANGE time" */
    private static void changeTimes() {
        for (int change : new int[] {0, 1, 5, 59, 60}) {
            for (int early = 0; early <= 1; early++) {
                RailwayHouse x = new RailwayHouse();
                if (change != 5) {
                    x.station(1, change, 0);
                }
                int departure = 10 + change - early;
                run(x, 1, 0, 0, 0, 1, 10, 11);
                run(x, 1, 1, 0, departure, 2, 80, 80);
                Check.due("change of " + change + ", too early by " + early, x.journey(0, 2, 0), 1 - early);
            }
        }
        // Neither the first stop nor the last one has a change; the station's own counts where one changes.
        RailwayHouse x = new RailwayHouse();
        x.station(0, 60, 0);
        x.station(2, 60, 0);
        run(x, 1, 0, 0, 0, 2, 10, 10);
        Check.due("without a change", x.journey(0, 2, 0), 1);
    }

    /** "for each LEG 100 and 30 times the difference of both ZONES" */
    private static void zones() {
        int[][] zones = {{0, 0, 100}, {0, 9, 370}, {9, 0, 370}, {9, 9, 100}, {4, 5, 130}};
        for (int[] z : zones) {
            RailwayHouse x = new RailwayHouse();
            x.station(0, 5, z[0]);
            x.station(1, 5, z[1]);
            run(x, 1, 0, 0, 0, 1, 10, 10);
            x.journey(0, 1, 0);
            Check.due("fare", x.option(0, 2), z[2]);
            x.station(1, 5, z[0] == 0 ? 9 : 0);
            Check.due("the option stays as it was found", x.option(0, 2), z[2]);
        }
        RailwayHouse x = new RailwayHouse();
        run(x, 1, 0, 0, 0, 1, 10, 10);
        x.journey(0, 1, 0);
        Check.due("zones at first", x.option(0, 2), 100);
    }

    // ---- runs and stops

    /** "SEATS (1 to 20)"; "A RUN: its number. OUTSIDE; ROOM." */
    private static void seatsOfRuns() {
        for (int seats : new int[] {1, 2, 19, 20}) {
            RailwayHouse x = new RailwayHouse();
            Check.due("run", run(x, seats, 0, 0, 0, 1, 1, 1), 0);
            for (int i = 0; i < seats; i++) {
                Check.due("hold", x.hold(0, 0, 1, 9), i);
                Check.due("seat", x.holdAt(i, 0), i);
            }
            Check.due("no seat", x.hold(0, 0, 1, 9), Check.STATE);
        }
        Twins twins = new Twins("run", x -> x.run(3));
        for (int seats : new int[] {MIN, -1, 0, 21, MAX}) {
            twins.refuses("run of " + seats, Check.OUTSIDE, x -> x.run(seats));
        }
        twins.does("the next one", 1, x -> x.run(1));
        twins.end();
    }

    /** "RUNS (12 at most)" */
    private static void twelveRuns() {
        Twins twins = new Twins("twelve runs", x -> {
            for (int i = 0; i < 11; i++) {
                Check.due("run", x.run(1), i);
            }
        });
        twins.does("the twelfth", 11, x -> x.run(20));
        twins.refuses("the thirteenth", Check.ROOM, x -> x.run(20));
        twins.refuses("the thirteenth", Check.OUTSIDE, x -> x.run(0));
        twins.refuses("a stop of it", Check.UNKNOWN, x -> x.stopAt(12, 0, 0, 0));
        twins.does("a stop of the twelfth", 1, x -> x.stopAt(11, 0, 0, 0));
        twins.does("runs", 12, x -> x.count(10));
        twins.end();
    }

    /** "stops in order (8 at most)"; "A stop more of a RUN: how many it has. .. ROOM." */
    private static void eightStops() {
        Twins twins = new Twins("eight stops", x -> {
            x.run(1);
            for (int i = 1; i <= 7; i++) {
                Check.due("stop", x.stopAt(0, i, 10 * i, 10 * i), i);
            }
        });
        twins.refuses("too early", Check.OUTSIDE, x -> x.stopAt(0, 0, 69, 70));
        twins.does("the eighth", 8, x -> x.stopAt(0, 0, 70, 70));
        twins.refuses("the ninth", Check.ROOM, x -> x.stopAt(0, 0, 70, 70));
        twins.refuses("the ninth", Check.ROOM, x -> x.stopAt(0, 0, 10000, 10000));
        twins.refuses("the ninth, too early", Check.OUTSIDE, x -> x.stopAt(0, 0, 69, 70));
        twins.refuses("the ninth, nowhere", Check.UNKNOWN, x -> x.stopAt(0, 8, 70, 70));
        twins.does("to the last stop", 0, x -> x.hold(0, 0, 7, 9));
        twins.refuses("to the ninth", Check.UNKNOWN, x -> x.hold(0, 0, 8, 9));
        twins.end();
    }

    /** "(0 to 10000; not before the one before)"; "OUTSIDE: also the departure before the arrival, the arrival before .." */
    private static void timesOfStops() {
        Twins twins = new Twins("times", x -> {
            x.run(1);
            x.run(1);
            x.stopAt(1, 0, 500, 600);
        });
        for (int time : new int[] {MIN, -1, 10001, MAX}) {
            twins.refuses("arrival " + time, Check.OUTSIDE, x -> x.stopAt(0, 0, time, 10000));
            twins.refuses("departure " + time, Check.OUTSIDE, x -> x.stopAt(0, 0, 0, time));
            twins.refuses("both " + time, Check.OUTSIDE, x -> x.stopAt(0, 0, time, time));
        }
        twins.refuses("departure before arrival", Check.OUTSIDE, x -> x.stopAt(0, 0, 1, 0));
        twins.refuses("departure before arrival", Check.OUTSIDE, x -> x.stopAt(0, 0, 10000, 9999));
        twins.refuses("arrival before the departure before", Check.OUTSIDE, x -> x.stopAt(1, 0, 599, 700));
        twins.refuses("arrival as the arrival before", Check.OUTSIDE, x -> x.stopAt(1, 0, 500, 700));
        twins.does("first, as early as can be", 1, x -> x.stopAt(0, 0, 0, 0));
        twins.does("the same time again", 2, x -> x.stopAt(0, 1, 0, 0));
        twins.does("a long stop", 3, x -> x.stopAt(0, 2, 0, 10000));
        twins.does("as late as can be", 4, x -> x.stopAt(0, 3, 10000, 10000));
        twins.does("just at the departure before", 2, x -> x.stopAt(1, 0, 600, 600));
        twins.end();
    }

    private static void stopsOfNothing() {
        new Twins("no run yet", x -> { }).refuses("stop", Check.UNKNOWN, x -> x.stopAt(0, 0, 0, 0))
                .refuses("hold", Check.UNKNOWN, x -> x.hold(0, 0, 1, 0)).end();
        Twins twins = new Twins("one run", x -> x.run(1));
        for (int run : new int[] {MIN, -1, 1, 12, MAX}) {
            twins.refuses("stop of run " + run, Check.UNKNOWN, x -> x.stopAt(run, 0, 0, 0));
            twins.refuses("stop of run " + run, Check.UNKNOWN, x -> x.stopAt(run, 0, 1, 0));
        }
        for (int station : new int[] {MIN, -1, 8, MAX}) {
            twins.refuses("stop at " + station, Check.UNKNOWN, x -> x.stopAt(0, station, 0, 0));
            twins.refuses("stop at " + station, Check.UNKNOWN, x -> x.stopAt(0, station, 1, 0));
        }
        twins.does("the first station", 1, x -> x.stopAt(0, 0, 0, 0));
        twins.does("the last station", 2, x -> x.stopAt(0, 7, 0, 0));
        twins.end();
    }

    // ---- journeys

    /** "OUTSIDE: the time (0 to 10000), both the same."; "not departing before that time" */
    private static void journeyTimes() {
        Consumer<RailwayHouse> past = x -> {
            run(x, 1, 0, 0, 4000, 1, 5000, 5000);
            run(x, 1, 0, 9000, 10000, 1, 10000, 10000);
            x.journey(0, 1, 0);
        };
        int[][] due = {{0, 5000}, {3999, 5000}, {4000, 5000}, {4001, 10000}, {9999, 10000}, {10000, 10000}};
        for (int[] d : due) {
            RailwayHouse x = house(past);
            Check.due("from " + d[0] + " on", x.journey(0, 1, d[0]), 1);
            Check.due("arrival from " + d[0] + " on", x.option(0, 0), d[1]);
        }
        Twins twins = new Twins("journey", past);
        for (int time : new int[] {MIN, -1, 10001, MAX}) {
            twins.refuses("from " + time + " on", Check.OUTSIDE, x -> x.journey(0, 1, time));
            twins.refuses("from " + time + " on", Check.UNKNOWN, x -> x.journey(0, 8, time));
        }
        twins.end();
    }

    private static void journeysFromAndTo() {
        Twins twins = new Twins("journey", x -> {
            run(x, 1, 0, 0, 0, 7, 9, 9);
            x.journey(0, 7, 0);
        });
        for (int station : new int[] {MIN, -1, 8, MAX}) {
            twins.refuses("from " + station, Check.UNKNOWN, x -> x.journey(station, 7, 0));
            twins.refuses("to " + station, Check.UNKNOWN, x -> x.journey(0, station, 0));
            twins.refuses("from and to " + station, Check.UNKNOWN, x -> x.journey(station, station, 0));
        }
        for (int station = 0; station < 8; station++) {
            int s = station;
            twins.refuses("both " + s, Check.OUTSIDE, x -> x.journey(s, s, 0));
        }
        twins.does("the option stays", 9, x -> x.option(0, 0));
        twins.does("from the first to the last", 1, x -> x.journey(0, 7, 0));
        twins.does("from the last to the first", 0, x -> x.journey(7, 0, 0));
        twins.does("no option any more", Check.UNKNOWN, x -> x.option(0, 0));
        twins.end();
    }

    private static void noJourney() {
        RailwayHouse x = new RailwayHouse();
        Check.due("no run", x.journey(0, 1, 0), 0);
        Check.due("option", x.option(0, 0), Check.UNKNOWN);
        Check.due("leg", x.leg(0, 0, 0), Check.UNKNOWN);
        x.run(1);
        Check.due("a run without stops", x.journey(0, 1, 0), 0);
        x.stopAt(0, 0, 0, 0);
        Check.due("a run with one stop", x.journey(0, 1, 0), 0);
        x.stopAt(0, 1, 5, 5);
        Check.due("a run with two stops", x.journey(0, 1, 0), 1);
        Check.due("not back", x.journey(1, 0, 0), 0);
    }

    /** "1 to 4 LEGS" */
    private static void oneToFourLegs() {
        RailwayHouse x = new RailwayHouse();
        for (int i = 0; i < 6; i++) {
            x.station(i, 0, 0);
            run(x, 1, i, 10 * i, 10 * i, i + 1, 10 * i + 10, 10 * i + 10);
        }
        for (int to = 1; to <= 6; to++) {
            Check.due("legs to " + to, x.journey(0, to, 0), to <= 4 ? 1 : 0);
            Check.due("legs to " + to, x.option(0, 3), to <= 4 ? to : Check.UNKNOWN);
            Check.due("changes to " + to, x.option(0, 1), to <= 4 ? to - 1 : Check.UNKNOWN);
        }
    }

    /** A leg is to a later stop; two stops of one run at the same station make none from a station to itself. */
    private static void runsWithoutALeg() {
        RailwayHouse x = new RailwayHouse();
        run(x, 1, 1, 0, 0, 0, 5, 5);
        Check.due("the wrong way round", x.journey(0, 1, 0), 0);
        run(x, 1, 0, 0, 7, 0, 8, 9, 1, 20, 20, 1, 30, 30);
        Check.due("the earliest stop", x.journey(0, 1, 0), 1);
        Check.due("arrival", x.option(0, 0), 20);
        Check.due("the first stop of those with the same three", x.leg(0, 0, 1), 0);
        Check.due("journey", x.journey(0, 1, 8), 1);
        Check.due("the first one is too early", x.leg(0, 0, 1), 1);
    }

    /** "Of OPTION k of the latest journey() .. UNKNOWN; OUTSIDE." */
    private static void optionsOfTheLatestJourney() {
        Consumer<RailwayHouse> past = x -> {
            run(x, 1, 0, 0, 0, 1, 10, 11, 2, 60, 60);
            run(x, 1, 1, 0, 15, 2, 20, 20);
            x.journey(0, 2, 0);
        };
        Twins twins = new Twins("option", past);
        int[][] due = {{20, 1, 200, 2}, {60, 0, 100, 1}};
        for (int k = 0; k < 2; k++) {
            for (int what = 0; what <= 3; what++) {
                int option = k;
                int w = what;
                twins.does("option " + k + " what " + what, due[k][what], x -> x.option(option, w));
            }
        }
        for (int k : new int[] {MIN, -1, 2, MAX}) {
            twins.refuses("option " + k, Check.UNKNOWN, x -> x.option(k, 0));
            twins.refuses("option " + k, Check.UNKNOWN, x -> x.option(k, 4));
            twins.refuses("leg of option " + k, Check.UNKNOWN, x -> x.leg(k, 0, 0));
            twins.refuses("leg of option " + k, Check.UNKNOWN, x -> x.leg(k, 9, 3));
        }
        for (int what : new int[] {MIN, -1, 4, MAX}) {
            twins.refuses("what " + what, Check.OUTSIDE, x -> x.option(1, what));
        }
        twins.end();
        RailwayHouse x = house(past);
        run(x, 1, 0, 0, 0, 2, 5, 5);
        Check.due("a later run is no matter", x.option(0, 0), 20);
        Check.due("journey", x.journey(0, 2, 0), 1);
        Check.due("now it is", x.option(0, 0), 5);
        Check.due("the second one is no more", x.option(1, 0), Check.UNKNOWN);
    }

    /** "none is as good in all three (less is better) and better in one"; "in order of arrival, CHANGES, FARE" */
    private static void orderOfOptions() {
        // With zones: a direct run is dear and late, one with a change is early and dearer.
        RailwayHouse x = new RailwayHouse();
        x.station(2, 5, 9);
        run(x, 1, 0, 0, 0, 2, 50, 50);
        Check.due("one", x.journey(0, 2, 0), 1);
        run(x, 1, 0, 0, 0, 2, 50, 50);
        Check.due("the same three", x.journey(0, 2, 0), 1);
        Check.due("the first run", x.leg(0, 0, 0), 0);
        run(x, 1, 0, 0, 0, 2, 49, 49);
        Check.due("better by 1 in its arrival", x.journey(0, 2, 0), 1);
        Check.due("that run", x.leg(0, 0, 0), 2);
        run(x, 1, 0, 0, 0, 1, 10, 10);
        run(x, 1, 1, 0, 15, 2, 49, 49);
        Check.due("as early, with a change and dearer", x.journey(0, 2, 0), 1);
        run(x, 1, 1, 0, 15, 2, 48, 48);
        Check.due("earlier, with a change and dearer", x.journey(0, 2, 0), 2);
        Check.due("the earlier one is first", x.option(0, 0), 48);
        Check.due("fare", x.option(0, 2), 470);
        Check.due("the other one", x.option(1, 0), 49);
        Check.due("fare", x.option(1, 2), 370);
    }

    /** "RUN (what = 0), first stop (1), last stop (2), as they came. UNKNOWN; OUTSIDE: what; NONE: there is no such LEG." */
    private static void tellLegs() {
        Twins twins = new Twins("leg", x -> {
            for (int i = 0; i < 11; i++) {
                x.run(1);
            }
            run(x, 1, 3, 0, 0, 3, 0, 0, 3, 0, 0, 3, 0, 0, 3, 0, 0, 3, 0, 0, 0, 0, 0, 1, 10, 10);
            x.journey(0, 1, 0);
        });
        twins.does("the last run", 11, x -> x.leg(0, 0, 0));
        twins.does("the last stop but one", 6, x -> x.leg(0, 0, 1));
        twins.does("the last stop", 7, x -> x.leg(0, 0, 2));
        for (int leg : new int[] {MIN, -1, 1, 4, MAX}) {
            twins.does("leg " + leg, Check.NONE, x -> x.leg(0, leg, 0));
            twins.refuses("leg " + leg, Check.OUTSIDE, x -> x.leg(0, leg, 3));
            twins.refuses("leg " + leg, Check.UNKNOWN, x -> x.leg(1, leg, 3));
        }
        for (int what : new int[] {MIN, -1, 3, MAX}) {
            twins.refuses("what " + what, Check.OUTSIDE, x -> x.leg(0, 0, what));
        }
        twins.end();
    }

    // ---- holds

    /** "UNKNOWN: the RUN, stops; OUTSIDE: the first is not before the other, until (0 to 1000000)" */
    private static void holdsOfStops() {
        Twins twins = new Twins("hold", x -> {
            run(x, 5, 0, 0, 0, 1, 1, 1, 2, 2, 2);
            x.run(5);
        });
        for (int run : new int[] {MIN, -1, 2, 12, MAX}) {
            twins.refuses("of run " + run, Check.UNKNOWN, x -> x.hold(run, 0, 1, 0));
            twins.refuses("of run " + run, Check.UNKNOWN, x -> x.hold(run, 1, 0, -1));
        }
        twins.refuses("of a run without stops", Check.UNKNOWN, x -> x.hold(1, 0, 1, 0));
        for (int stop : new int[] {MIN, -1, 3, 8, MAX}) {
            twins.refuses("from " + stop, Check.UNKNOWN, x -> x.hold(0, stop, 2, 0));
            twins.refuses("to " + stop, Check.UNKNOWN, x -> x.hold(0, 0, stop, 0));
            twins.refuses("from and to " + stop, Check.UNKNOWN, x -> x.hold(0, stop, stop, -1));
        }
        twins.refuses("not before the other", Check.OUTSIDE, x -> x.hold(0, 1, 1, 0));
        twins.refuses("not before the other", Check.OUTSIDE, x -> x.hold(0, 2, 1, 0));
        for (int until : new int[] {MIN, -1, 1000001, MAX}) {
            twins.refuses("until " + until, Check.OUTSIDE, x -> x.hold(0, 0, 2, until));
        }
        twins.does("none came", 0, x -> x.count(12));
        twins.does("until 0", 0, x -> x.hold(0, 0, 1, 0));
        twins.does("until 1000000", 1, x -> x.hold(0, 1, 2, 1000000));
        twins.end();
    }

    /** "It is gone at a tick at whose TIME that has come, unless it is paid" */
    private static void holdsUntil() {
        int[][] gone = {{0, 1}, {1, 1}, {2, 2}, {50, 50}, {51, 51}};
        for (int[] g : gone) {
            RailwayHouse x = Check.house("plain 1 1;");
            run(x, 2, 0, 0, 0, 1, 1, 1);
            x.hold(0, 0, 1, g[0]);
            x.hold(0, 0, 1, g[0]);
            x.pay(1);
            Check.due("until " + g[0] + " at once", x.holdAt(0, 1), 0);
            for (int time = 1; time <= 52; time++) {
                x.tick(1);
                Check.due("until " + g[0] + " at " + time, x.holdAt(0, 1), time < g[1] ? 0 : 2);
                Check.due("paid at " + time, x.holdAt(1, 1), 1);
                Check.due("not gone at " + time, x.count(11), time < g[1] ? 2 : 1);
            }
        }
        RailwayHouse late = Check.house("plain 1 1;");
        run(late, 1, 0, 0, 0, 1, 1, 1);
        late.tick(50);
        Check.due("a time that has come", late.hold(0, 0, 1, 7), 0);
        Check.due("it counts till the next tick", late.holdAt(0, 1), 0);
        Check.due("no seat till then", late.hold(0, 0, 1, 7), Check.STATE);
        late.tick(1);
        Check.due("then it is gone", late.holdAt(0, 1), 2);
        Check.due("its seat is free", late.hold(0, 0, 1, 100), 1);
    }

    /** "the first seat (from 0 on) that no other HOLD has on a part of it" */
    private static void seatsByParts() {
        RailwayHouse x = new RailwayHouse();
        run(x, 2, 0, 0, 0, 1, 1, 1, 2, 2, 2, 3, 3, 3, 4, 4, 4);
        int[][] holds = {{1, 3, 0}, {0, 1, 0}, {3, 4, 0}, {0, 2, 1}, {2, 3, 1}, {3, 4, 1}};
        for (int h = 0; h < holds.length; h++) {
            Check.due("hold", x.hold(0, holds[h][0], holds[h][1], 9), h);
            Check.due("seat of hold " + h, x.holdAt(h, 0), holds[h][2]);
        }
        for (int from = 0; from < 4; from++) {
            Check.due("no seat", x.hold(0, from, from + 1, 9), Check.STATE);
            Check.due("no seat", x.hold(0, from, 4, 9), Check.STATE);
        }
        x.give(0);
        Check.due("the whole part is not free", x.hold(0, 0, 3, 9), Check.STATE);
        Check.due("it is free again", x.hold(0, 2, 3, 9), 6);
        Check.due("seat", x.holdAt(6, 0), 0);
    }

    /** "A HOLD (60 at most that are not gone)"; "ROOM: 60 are not gone, or 400 came" */
    private static void sixtyHolds() {
        Consumer<RailwayHouse> past = x -> {
            Check.load(x, "plain 1 1;");
            for (int r = 0; r < 4; r++) {
                run(x, 20, 0, 0, 0, 1, 1, 1);
            }
            for (int i = 0; i < 59; i++) {
                Check.due("hold", x.hold(i / 20, 0, 1, i == 0 ? 1 : 9), i);
            }
            x.pay(1);
        };
        Twins twins = new Twins("sixty", past);
        twins.does("the sixtieth", 59, x -> x.hold(2, 0, 1, 9));
        twins.refuses("one more", Check.ROOM, x -> x.hold(3, 0, 1, 9));
        twins.refuses("one more without a seat", Check.STATE, x -> x.hold(0, 0, 1, 9));
        twins.refuses("one more, the wrong way", Check.OUTSIDE, x -> x.hold(0, 1, 0, 9));
        twins.refuses("one more of nothing", Check.UNKNOWN, x -> x.hold(4, 0, 1, 9));
        twins.does("not gone", 60, x -> x.count(11));
        twins.end();
        RailwayHouse x = house(past);
        x.hold(2, 0, 1, 9);
        x.tick(1);
        Check.due("one has ended", x.count(11), 59);
        Check.due("there is room", x.hold(3, 0, 1, 9), 60);
        Check.due("no room", x.hold(3, 0, 1, 9), Check.ROOM);
        Check.due("a paid one is given back", x.give(1), 1);
        Check.due("there is room", x.hold(3, 0, 1, 9), 61);
    }

    /** "(HOLDS are numbered as they come, 400 at most in all.)" */
    private static void fourHundredHolds() {
        Twins twins = new Twins("four hundred", x -> {
            Check.load(x, "plain 1 1;");
            for (int r = 0; r < 3; r++) {
                run(x, 20, 0, 0, 0, 1, 1, 1);
            }
            for (int i = 0; i < 399; i++) {
                Check.due("hold", x.hold(i / 20 % 3, 0, 1, 0), i);
                if (i % 60 == 59) {
                    x.tick(1);
                }
            }
            x.tick(1);
        });
        twins.does("the last one", 399, x -> x.hold(0, 0, 1, 1000));
        twins.refuses("one more", Check.ROOM, x -> x.hold(0, 0, 1, 1000));
        twins.does("pay of the last one", 1, x -> x.pay(399));
        twins.does("the last one is given back", 1, x -> x.give(399));
        twins.does("none is left", 0, x -> x.count(11));
        twins.refuses("one more", Check.ROOM, x -> x.hold(0, 0, 1, 1000));
        twins.refuses("pay of one more", Check.UNKNOWN, x -> x.pay(400));
        twins.does("came", 400, x -> x.count(12));
        twins.end();
    }

    /** "A HOLD is paid: 1. UNKNOWN; STATE: it is gone, or paid."; "A HOLD is given back: 1. UNKNOWN; STATE: it is gone." */
    private static void paidAndGivenBack() {
        new Twins("no hold yet", x -> run(x, 1, 0, 0, 0, 1, 1, 1)).refuses("pay", Check.UNKNOWN, x -> x.pay(0))
                .refuses("give", Check.UNKNOWN, x -> x.give(0)).refuses("holdAt", Check.UNKNOWN, x -> x.holdAt(0, 0)).end();
        Twins twins = new Twins("holds", x -> {
            Check.load(x, "plain 1 1;");
            run(x, 9, 0, 0, 0, 1, 1, 1);
            x.hold(0, 0, 1, 0);
            x.tick(1);
            for (int i = 0; i < 3; i++) {
                x.hold(0, 0, 1, 900);
            }
        });
        twins.refuses("pay of one that has ended", Check.STATE, x -> x.pay(0));
        twins.refuses("give of one that has ended", Check.STATE, x -> x.give(0));
        twins.does("pay", 1, x -> x.pay(1));
        twins.refuses("pay again", Check.STATE, x -> x.pay(1));
        twins.does("give of a paid one", 1, x -> x.give(1));
        twins.refuses("give again", Check.STATE, x -> x.give(1));
        twins.refuses("pay of one given back", Check.STATE, x -> x.pay(1));
        twins.does("give of one that counts", 1, x -> x.give(3));
        twins.does("it counts", 0, x -> x.holdAt(2, 1));
        for (int hold : new int[] {MIN, -1, 4, 400, MAX}) {
            twins.refuses("pay of " + hold, Check.UNKNOWN, x -> x.pay(hold));
            twins.refuses("give of " + hold, Check.UNKNOWN, x -> x.give(hold));
        }
        twins.end();
    }

    /** "its seat (what = 0), 0 it counts, 1 it is paid, 2 it is gone (1), its RUN (2). UNKNOWN; OUTSIDE." */
    private static void tellHolds() {
        Twins twins = new Twins("holdAt", x -> {
            x.run(1);
            run(x, 2, 0, 0, 0, 1, 1, 1);
            x.hold(1, 0, 1, 9);
            x.hold(1, 0, 1, 9);
            x.give(1);
        });
        twins.does("seat of one that is gone", 1, x -> x.holdAt(1, 0));
        twins.does("gone", 2, x -> x.holdAt(1, 1));
        twins.does("its run", 1, x -> x.holdAt(1, 2));
        for (int hold : new int[] {MIN, -1, 2, 400, MAX}) {
            twins.refuses("hold " + hold, Check.UNKNOWN, x -> x.holdAt(hold, 0));
            twins.refuses("hold " + hold, Check.UNKNOWN, x -> x.holdAt(hold, 3));
        }
        for (int what : new int[] {MIN, -1, 3, MAX}) {
            twins.refuses("what " + what, Check.OUTSIDE, x -> x.holdAt(0, what));
        }
        twins.end();
    }

    // ---- the single line

    /** "a direction (0, 1), .. READY (0 to 1000), .. TAKES (1 to 100), .. DUE (0 to 2000), a WEIGHT (0 to 20)" */
    private static void numbersOfTheLine() {
        int[][] edges = {{0, 1}, {0, 1000}, {1, 100}, {0, 2000}, {0, 20}};
        for (int i = 0; i < 5; i++) {
            for (int side = 0; side <= 1; side++) {
                int[] a = {0, 0, 1, 0, 0};
                a[i] = edges[i][side];
                RailwayHouse x = new RailwayHouse();
                Check.due("line", x.line(a[0], a[1], a[2], a[3], a[4]), 0);
                Check.due("cost", x.dispatch(), a[4] * Math.max(0, a[1] + a[2] - a[3]));
                Check.due("begins", x.turn(0, 1), a[1]);
                Check.due("ends", x.turn(0, 2), a[1] + a[2]);
            }
            Twins twins = new Twins("line", x -> x.line(1, 2, 3, 4, 5));
            for (int wrong : new int[] {MIN, edges[i][0] - 1, edges[i][1] + 1, MAX}) {
                int[] a = {0, 0, 1, 0, 0};
                a[i] = wrong;
                twins.refuses("line with " + wrong + " at " + i, Check.OUTSIDE, x -> x.line(a[0], a[1], a[2], a[3], a[4]));
            }
            twins.does("the next one", 1, x -> x.line(0, 0, 1, 0, 0));
            twins.end();
        }
        RailwayHouse x = new RailwayHouse();
        for (int i = 0; i < 7; i++) {
            x.line(0, 1000, 100, 0, 20);
        }
        Check.due("the greatest of one direction", x.dispatch(), 20 * (7 * 1100 + 3 * 21));
        RailwayHouse y = new RailwayHouse();
        for (int i = 0; i < 7; i++) {
            y.line(i % 2, 1000, 100, 0, 20);
        }
        // Four of direction 0, 3 apart, then three of direction 1 behind the last one's end.
        Check.due("of both directions", y.dispatch(), 20 * (4 * 1100 + 3 * 6 + 3 * 1209 + 3 * 3));
    }

    /** "trains (7 at most)"; "A train more of the line: its number. OUTSIDE; ROOM." */
    private static void sevenTrains() {
        Twins twins = new Twins("seven", x -> {
            for (int i = 0; i < 6; i++) {
                Check.due("line", x.line(0, i, 1, 0, 1), i);
            }
        });
        twins.does("the seventh", 6, x -> x.line(1, 9, 9, 9, 9));
        twins.refuses("the eighth", Check.ROOM, x -> x.line(0, 0, 1, 0, 0));
        twins.refuses("the eighth", Check.OUTSIDE, x -> x.line(0, 0, 0, 0, 0));
        twins.does("trains", 7, x -> x.count(13));
        twins.does("clearLine", 7, x -> x.clearLine());
        twins.does("the first again", 0, x -> x.line(0, 0, 1, 0, 0));
        twins.end();
    }

    /** "No train of the line: how many there were."; "What THE BEST ORDER costs." */
    private static void emptyLine() {
        RailwayHouse x = new RailwayHouse();
        Check.due("clearLine", x.clearLine(), 0);
        Check.due("dispatch", x.dispatch(), 0);
        Check.due("turn", x.turn(0, 0), Check.NONE);
        x.line(0, 5, 5, 0, 1);
        Check.due("dispatch", x.dispatch(), 10);
        Check.due("turn", x.turn(0, 0), 0);
        Check.due("clearLine", x.clearLine(), 1);
        Check.due("clearLine", x.clearLine(), 0);
        Check.due("trains", x.count(13), 0);
        Check.due("dispatch of none", x.dispatch(), 0);
        Check.due("turn of none", x.turn(0, 0), Check.NONE);
    }

    /** "not before the one before it began and 3 more, if that has the same direction, nor ends before that ends and 3 more .." */
    private static void threeApart() {
        // The first one has all the weight, so it goes first.
        int[][] seconds = {{0, 0, 10, 3}, {0, 2, 10, 3}, {0, 3, 10, 3}, {0, 4, 10, 4}, {0, 0, 9, 4}, {0, 0, 1, 12},
            {0, 11, 1, 12}, {0, 12, 1, 12}, {0, 13, 1, 13}, {0, 0, 100, 3}, {1, 0, 10, 10}, {1, 9, 10, 10}, {1, 10, 10, 10},
            {1, 11, 10, 11}};
        for (int[] s : seconds) {
            RailwayHouse x = new RailwayHouse();
            x.line(0, 0, 10, 10, 20);
            x.line(s[0], s[1], s[2], 2000, 0);
            Check.due("cost", x.dispatch(), 0);
            Check.due("the first one", x.turn(0, 0), 0);
            Check.due("the second one, ready at " + s[1] + " for " + s[2], x.turn(1, 1), s[3]);
            Check.due("ends", x.turn(1, 2), s[3] + s[2]);
        }
    }

    /** "COST: for each its WEIGHT times what it ends behind DUE." */
    private static void behindDue() {
        int[][] dues = {{11, 0}, {10, 0}, {9, 7}, {0, 70}};
        for (int[] d : dues) {
            RailwayHouse x = new RailwayHouse();
            x.line(0, 0, 10, d[0], 7);
            Check.due("due at " + d[0], x.dispatch(), d[1]);
        }
        RailwayHouse x = new RailwayHouse();
        x.line(0, 0, 10, 0, 1);
        x.line(1, 0, 10, 0, 1);
        Check.due("both orders cost the same", x.dispatch(), 30);
        Check.due("the first one by numbers", x.turn(0, 0), 0);
        x.line(0, 0, 10, 2000, 0);
        x.dispatch();
        Check.due("the first one by numbers", x.turn(0, 0) * 100 + x.turn(1, 0) * 10 + x.turn(2, 0), 12);
    }

    /** "by the latest dispatch() .. NONE: there is none such. OUTSIDE: what." */
    private static void turnsOfTheLatestDispatch() {
        Twins twins = new Twins("turn", x -> {
            x.line(0, 0, 10, 10, 1);
            x.line(1, 0, 10, 10, 2);
            x.dispatch();
            x.line(1, 0, 10, 10, 2);
        });
        twins.does("first", 1, x -> x.turn(0, 0));
        twins.does("second", 0, x -> x.turn(1, 0));
        twins.does("ends", 20, x -> x.turn(1, 2));
        for (int k : new int[] {MIN, -1, 2, 6, 7, MAX}) {
            for (int what = 0; what <= 2; what++) {
                int w = what;
                twins.does("place " + k, Check.NONE, x -> x.turn(k, w));
            }
        }
        for (int what : new int[] {MIN, -1, 3, MAX}) {
            twins.refuses("what " + what, Check.OUTSIDE, x -> x.turn(0, what));
        }
        twins.end();
        new Twins("no dispatch yet", x -> x.line(0, 0, 1, 0, 0)).refuses("turn", Check.OUTSIDE, x -> x.turn(0, 3))
                .does("turn", Check.NONE, x -> x.turn(0, 0)).end();
    }

    // ---- promises 4, 50, 51

    private static void counts() {
        RailwayHouse x = new RailwayHouse();
        for (int what : new int[] {MIN, -1, 15, MAX}) {
            new Twins("count", h -> Check.load(h, Check.ROW)).refuses("count " + what, Check.OUTSIDE, h -> h.count(what)).end();
            Check.due("count " + what, x.count(what), Check.OUTSIDE);
        }
        Check.due("the first one", x.count(0), 0);
        x.feed(0, 0, 0, 0, 0);
        Check.due("the last one", x.count(14), 20);
    }

    /** "All is as at the beginning: TIME as it was." */
    private static void clearAll() {
        RailwayHouse x = Check.house(Check.STATION);
        x.tick(50);
        x.tick(50);
        x.station(0, 0, 9);
        run(x, 2, 0, 0, 0, 1, 1, 1);
        x.hold(0, 0, 1, 900);
        x.hold(0, 0, 1, 900);
        x.pay(0);
        x.give(1);
        x.journey(0, 1, 0);
        x.line(0, 0, 1, 0, 1);
        x.dispatch();
        x.set(0);
        x.enter(0, 3, 3, 3, 3);
        x.interpose(1, 7);
        x.force(0, 2, 3);
        x.block(4, true);
        x.fault(2, 5);
        x.tick(1);
        x.sync();
        x.cut();
        x.feed(0, 0, 0, 0, 0);
        x.load();
        Check.due("clear", x.clear(), 101);
        Check.dueText("as at the beginning", Told.all(x), Told.all(new RailwayHouse()));
        Check.due("clear again", x.clear(), 0);
        RailwayHouse fresh = new RailwayHouse();
        Check.load(x, Check.STATION);
        Check.load(fresh, Check.STATION);
        run(x, 3, 0, 0, 0, 1, 1, 9, 2, 20, 20);
        run(fresh, 3, 0, 0, 0, 1, 1, 9, 2, 20, 20);
        Check.due("and goes on so", Told.future(x).equals(Told.future(fresh)));
    }

    /** "TIME is 0 (the timetable stays, HOLDS and the line, too)" */
    private static void loadKeepsTheTimetable() {
        RailwayHouse x = Check.house(Check.ROW);
        x.station(1, 5, 9);
        run(x, 1, 0, 0, 0, 1, 1, 1);
        x.tick(10);
        x.hold(0, 0, 1, 11);
        x.journey(0, 1, 0);
        x.line(0, 0, 7, 0, 1);
        x.dispatch();
        Check.due("load", Check.load(x, "plain 1 1;"), 1);
        Check.due("time", x.count(3), 0);
        Check.due("runs", x.count(10), 1);
        Check.due("holds", x.count(11), 1);
        Check.due("holds that came", x.count(12), 1);
        Check.due("line", x.count(13), 1);
        Check.due("option", x.option(0, 2), 370);
        Check.due("turn", x.turn(0, 2), 7);
        Check.due("its seat", x.hold(0, 0, 1, 0), Check.STATE);
        x.tick(10);
        Check.due("it counts", x.holdAt(0, 1), 0);
        x.tick(1);
        Check.due("gone at that time of the new layout", x.holdAt(0, 1), 2);
        Check.due("zone", x.journey(0, 1, 0), 1);
        Check.due("zone", x.option(0, 2), 370);
    }
}
