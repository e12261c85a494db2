import java.util.ArrayList;
import java.util.Collections;
import java.util.List;
import java.util.Random;

/** Promises 7 to 35 and 50: random yards and random calls, each answer against the plain house's. */
public final class AgainstPlainTest {
    private static Random random;
    private static RailwayHouse x;
    private static PlainHouse p;
    private static int run;
    private static int[] met = new int[60];

    public static void main(String[] args) {
        int runs = args.length > 0 ? Integer.parseInt(args[0]) : 400;
        for (run = 0; run < runs; run++) {
            random = new Random(1000 + run);
            makeYard();
            compareRoutes();
            int calls = 60 + random.nextInt(240);
            for (int i = 0; i < calls; i++) {
                oneCall();
                compareAll(i);
            }
        }
        if (args.length > 1) {
            for (int i = 0; i < met.length; i++) {
                System.out.println(i + ": " + met[i]);
            }
        }
        Check.end("AgainstPlainTest");
    }

    // ---- yards

    private static void makeYard() {
        if (run % 3 == 0) {
            randomYard();
        } else {
            stationYard(run % 3 == 1);
        }
    }

    private static void build(int[] kind, List<int[]> joins, int[] signals) {
        int n = kind.length;
        int[] length = new int[n];
        int[] limit = new int[n];
        int[] joined = new int[3 * n];
        java.util.Arrays.fill(joined, Check.NONE);
        StringBuilder text = new StringBuilder();
        boolean tiny = random.nextInt(4) == 0;
        for (int s = 0; s < n; s++) {
            length[s] = 1 + random.nextInt(tiny ? 3 : kind[s] == 1 ? 6 : 25);
            limit[s] = random.nextInt(3) == 0 ? 1 + random.nextInt(9) : 9;
            text.append(kind[s] == 1 ? "point " : "plain ").append(length[s]).append(' ').append(limit[s]).append(";");
        }
        for (int[] j : joins) {
            joined[j[0]] = j[1];
            joined[j[1]] = j[0];
            text.append("join ").append(end(kind, j[0])).append(' ').append(end(kind, j[1])).append(";");
        }
        for (int s : signals) {
            text.append("signal ").append(end(kind, s)).append(";");
        }
        x = Check.house(text.toString());
        p = new PlainHouse(kind, length, limit, joined, signals);
    }

    private static String end(int[] kind, int end) {
        return end / 3 + " " + (kind[end / 3] == 1 ? "tlr" : "ab").charAt(end % 3);
    }

    private static void randomYard() {
        int n = 3 + random.nextInt(15);
        int[] kind = new int[n];
        List<Integer> ends = new ArrayList<>();
        for (int s = 0; s < n; s++) {
            kind[s] = random.nextInt(5) < 2 ? 1 : 0;
            for (int e = 0; e < (kind[s] == 1 ? 3 : 2); e++) {
                ends.add(3 * s + e);
            }
        }
        Collections.shuffle(ends, random);
        List<int[]> joins = new ArrayList<>();
        List<Integer> places = new ArrayList<>();
        int open = Math.min(ends.size(), 1 + random.nextInt(4));
        for (int i = open; i + 1 < ends.size(); i += 2) {
            joins.add(new int[] {ends.get(i), ends.get(i + 1)});
            for (int k = i; k <= i + 1; k++) {
                if (kind[ends.get(k) / 3] == 0) {
                    places.add(ends.get(k));
                }
            }
        }
        Collections.shuffle(places, random);
        int[] signals = new int[Math.min(places.size(), 1 + random.nextInt(16))];
        for (int i = 0; i < signals.length; i++) {
            signals[i] = places.get(i);
        }
        build(kind, joins, signals);
    }

    /** Two tracks with crossovers between them, borders at all four ends; with a third track in the middle or not. */
    private static void stationYard(boolean third) {
        // 0 west a, 1 point, 2 point, 3 track a, 4 point, 5 point, 6 east a; 7..13 likewise b
        int n = third ? 17 : 14;
        int[] kind = new int[n];
        for (int s : new int[] {1, 2, 4, 5, 8, 9, 11, 12}) {
            kind[s] = 1;
        }
        List<int[]> joins = new ArrayList<>();
        for (int base = 0; base <= 7; base += 7) {
            joins.add(new int[] {3 * base + 1, 3 * (base + 1)});
            joins.add(new int[] {3 * (base + 1) + 1, 3 * (base + 2) + 1});
            joins.add(new int[] {3 * (base + 2), 3 * (base + 3)});
            joins.add(new int[] {3 * (base + 3) + 1, 3 * (base + 4)});
            joins.add(new int[] {3 * (base + 4) + 1, 3 * (base + 5) + 1});
            joins.add(new int[] {3 * (base + 5), 3 * (base + 6)});
        }
        // crossovers: r of 1 to r of 9, r of 8 to r of 2, r of 4 to r of 12, r of 11 to r of 5
        joins.add(new int[] {3 + 2, 27 + 2});
        joins.add(new int[] {24 + 2, 6 + 2});
        if (third) {
            // the eastern ones by plain sections between
            kind[14] = 0;
            joins.add(new int[] {12 + 2, 42});
            joins.add(new int[] {43, 36 + 2});
            joins.add(new int[] {33 + 2, 45});
            joins.add(new int[] {46, 15 + 2});
        } else {
            joins.add(new int[] {12 + 2, 36 + 2});
            joins.add(new int[] {33 + 2, 15 + 2});
        }
        int[] signals = {1, 9, 10, 18, 22, 30, 31, 39};
        build(kind, joins, signals);
    }

    // ---- calls

    private static void due(String what, int got, int want) {
        Check.due("run " + run + " at " + p.time + ": " + what, got, want);
    }

    private static void oneCall() {
        int dice = random.nextInt(100);
        int routes = p.routes.size();
        int sections = p.kind.length;
        if (dice < 34) {
            int n = random.nextInt(4) == 0 ? 1 + random.nextInt(12) : 1 + random.nextInt(3);
            for (int i = 0; i < n; i++) {
                p.tick();
            }
            due("tick", x.tick(n), p.time);
        } else if (dice < 56) {
            order(0, routes == 0 ? 0 : random.nextInt(routes), 0);
        } else if (dice < 60) {
            order(1, routes == 0 ? 0 : random.nextInt(routes), 0);
        } else if (dice < 62) {
            order(2, routes == 0 ? 0 : random.nextInt(routes), 0);
        } else if (dice < 68) {
            order(3, random.nextInt(sections), random.nextInt(2));
        } else if (dice < 78) {
            int[] a = {random.nextInt(sections), 1 + random.nextInt(random.nextInt(2) == 0 ? 30 : 5),
                1 + random.nextInt(9), 1 + random.nextInt(5), 1 + random.nextInt(9999)};
            due("enter", x.enter(a[0], a[1], a[2], a[3], a[4]), p.enter(a[0], a[1], a[2], a[3], a[4]));
        } else if (dice < 84) {
            forceSome(random.nextInt(sections), random.nextInt(3) == 0 ? random.nextInt(6) - 2 : -1);
        } else if (dice < 90) {
            faultSome();
        } else if (dice < 92) {
            due("reset", x.reset(), p.reset());
        } else if (dice < 94) {
            int s = random.nextInt(sections);
            boolean on = random.nextBoolean();
            if (p.kind[s] == 1) {
                due("block", x.block(s, on), p.blocked[s] ? 1 : 0);
                p.blocked[s] = on;
            } else {
                due("block", x.block(s, on), Check.UNKNOWN);
            }
        } else if (dice < 96) {
            standSome();
        } else if (dice < 97) {
            int i = random.nextInt(16);
            int number = random.nextInt(3) * 7;
            boolean known = i < p.signalEnds.size();
            due("interpose", x.interpose(i, number), known ? p.berth[i] : Check.UNKNOWN);
            if (known) {
                p.berth[i] = number;
            }
        } else if (dice < 98) {
            due("sync", x.sync(), p.sync());
        } else if (random.nextInt(3) > 0) {
            due("start", x.start(), p.start());
        } else {
            due("cut", x.cut(), p.cut());
        }
    }

    private static void order(int kind, int a, int b) {
        boolean known = kind == 3 ? p.kind[a] == 1 : a < p.routes.size();
        int got = kind == 0 ? x.set(a) : kind == 1 ? x.cancel(a) : kind == 2 ? x.release(a) : x.move(a, b);
        int want = known ? p.order(kind, a, b) : Check.UNKNOWN;
        met[want == 1 ? kind : 4 + kind]++;
        due("order " + kind + " of " + a, got, want);
    }

    private static void forceSome(int s, int v) {
        int kind = random.nextInt(2);
        if (kind == 1 && p.kind[s] == 0) {
            due("force", x.force(kind, s, v), Check.UNKNOWN);
            return;
        }
        due("force", x.force(kind, s, v), 1);
        (kind == 0 ? p.sectionForce : p.pointForce)[s] = v;
    }

    private static void faultSome() {
        int kind = random.nextInt(3) == 0 ? random.nextInt(6) : 0;
        int from = random.nextInt(3);
        int to = from;
        if (random.nextInt(3) == 0) {
            from = 0;
            to = 2;
            // Signals that come and go for no reason make trains pass them, and meet.
            kind = random.nextInt(3) == 0 ? kind : 2 * random.nextInt(2);
        }
        for (int c = from; c <= to; c++) {
            due("fault", x.fault(c, kind), p.channels[c].fault);
            p.channels[c].fault = kind;
        }
    }

    private static void standSome() {
        int t = random.nextInt(p.trains.size() + 1);
        boolean on = random.nextInt(3) == 0;
        int got = x.stand(t, on);
        if (t == p.trains.size()) {
            due("stand", got, Check.UNKNOWN);
        } else if (p.trains.get(t).gone) {
            due("stand", got, Check.STATE);
        } else {
            due("stand", got, p.trains.get(t).standing ? 1 : 0);
            p.trains.get(t).standing = on;
        }
    }

    // ---- comparing

    private static void compareRoutes() {
        due("routes", x.count(2), p.routes.size());
        for (int r = 0; r < p.routes.size(); r++) {
            PlainHouse.Route route = p.routes.get(r);
            due("signal", x.route(r, 0), route.signal);
            due("last", x.route(r, 1), route.last);
            due("size", x.route(r, 2), route.sections.size());
            due("overlap", x.route(r, 3), route.overlap);
            due("needs", x.route(r, 4), route.needs.size());
            for (int k = 0; k < route.sections.size(); k++) {
                due("section", x.routeSection(r, k), route.sections.get(k));
            }
            for (int k = 0; k < route.needs.size(); k++) {
                due("need", x.routeNeed(r, k), 2 * route.needs.get(k).point + route.needs.get(k).lie);
            }
            for (int q = 0; q < p.routes.size(); q++) {
                due("conflict", x.conflict(r, q), p.conflict(r, q));
            }
        }
    }

    private static void compareAll(int call) {
        for (int c = 0; c < 3; c++) {
            due("voting", x.channel(c, 0), p.channels[c].voting ? 1 : 0);
            due("fault", x.channel(c, 1), p.channels[c].fault);
            for (int r = 0; r < p.routes.size(); r++) {
                for (int what = 0; what < 6; what++) {
                    due("routeAt " + c + " " + r + " " + what, x.routeAt(c, r, what), p.channels[c].states.get(r).tell(what));
                }
                met[10 + p.channels[c].states.get(r).phase]++;
            }
        }
        for (int i = 0; i < p.signalEnds.size(); i++) {
            due("proceeds", x.signal(i, 2), p.proceeding.contains(i) ? 1 : 0);
            due("berth", x.signal(i, 3), p.berth[i]);
        }
        for (int s = 0; s < p.kind.length; s++) {
            due("holder", x.holder(s), p.holder(s));
            due("used", x.used(0, s), p.usedSection(s));
            due("trainOn", x.trainOn(s), p.trainOn(s));
            due("used", x.used(1, s), p.kind[s] == 1 ? p.usedPoint(s) : Check.UNKNOWN);
            due("lie", x.lie(s), p.kind[s] == 1 ? p.lie[s] : Check.UNKNOWN);
        }
        int present = 0;
        for (int i = 0; i < p.trains.size(); i++) {
            PlainHouse.Train t = p.trains.get(i);
            int[] want = {t.section, t.place, t.speed, t.gone ? 1 : 0, t.number, t.passed, t.on().size()};
            for (int what = 0; what <= 6; what++) {
                due("train " + i + " " + what, x.train(i, what), want[what]);
            }
            due("leave " + i, x.leave(i), t.gone ? Check.STATE : p.leave(t));
            present += t.gone ? 0 : 1;
            met[20] += t.gone ? 1 : 0;
            met[21] += t.passed;
        }
        int audit = p.audit();
        met[30 + audit]++;
        due("audit", x.audit(), audit);
        int[] counts = {p.kind.length, p.signalEnds.size(), p.routes.size(), p.time, present, p.trains.size(),
            p.down ? 1 : 0, p.powerless ? 1 : 0, p.releases, p.lost};
        met[22] += counts[6];
        met[23] += counts[7];
        for (int what = 0; what < counts.length; what++) {
            due("count " + what, x.count(what), counts[what]);
        }
    }
}
