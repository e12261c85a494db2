import java.util.Random;

/** Promises 46 to 49: the single line and its best order, against a search through all orders. */
public final class LineTest {
    public static void main(String[] args) {
        refusals();
        sameDirection();
        ties();
        latestDispatch();
        againstAllOrders();
        Check.end("LineTest");
    }

    private static void refusals() {
        RailwayHouse x = new RailwayHouse();
        int[][] wrong = {{-1, 0, 1, 0, 0}, {2, 0, 1, 0, 0}, {0, -1, 1, 0, 0}, {0, 1001, 1, 0, 0}, {0, 0, 0, 0, 0},
            {0, 0, 101, 0, 0}, {0, 0, 1, -1, 0}, {0, 0, 1, 2001, 0}, {0, 0, 1, 0, -1}, {0, 0, 1, 0, 21}};
        for (int[] w : wrong) {
            Check.due("line", x.line(w[0], w[1], w[2], w[3], w[4]), Check.OUTSIDE);
        }
        Check.due("none", x.count(13), 0);
        for (int i = 0; i < 7; i++) {
            Check.due("line", x.line(1, 1000, 100, 2000, 20), i);
        }
        Check.due("line", x.line(0, 0, 1, 0, 0), Check.ROOM);
        Check.due("line", x.line(0, 0, 0, 0, 0), Check.OUTSIDE);
        Check.due("trains", x.count(13), 7);
        Check.due("no dispatch yet", x.turn(0, 0), Check.NONE);
        Check.due("turn", x.turn(0, 3), Check.OUTSIDE);
        Check.due("turn", x.turn(-1, -1), Check.OUTSIDE);
        Check.due("turn", x.turn(-1, 0), Check.NONE);
        Check.due("clearLine", x.clearLine(), 7);
        Check.due("clearLine", x.clearLine(), 0);
        Check.due("dispatch", x.dispatch(), 0);
    }

    private static void sameDirection() {
        RailwayHouse x = new RailwayHouse();
        x.line(0, 0, 20, 0, 20);
        x.line(0, 0, 5, 1000, 0);
        Check.due("dispatch", x.dispatch(), 400);
        Check.due("a fast one waits till it ends 3 behind", x.turn(1, 1), 18);
        Check.due("ends", x.turn(1, 2), 23);
        x.clearLine();
        x.line(0, 0, 5, 0, 20);
        x.line(0, 0, 20, 1000, 0);
        x.dispatch();
        Check.due("a slow one begins 3 behind", x.turn(1, 1), 3);
        x.clearLine();
        x.line(0, 0, 5, 0, 20);
        x.line(1, 0, 20, 1000, 0);
        x.dispatch();
        Check.due("the other direction waits for its end", x.turn(1, 1), 5);
    }

    private static void ties() {
        RailwayHouse x = new RailwayHouse();
        for (int i = 0; i < 4; i++) {
            x.line(i % 2, 50 - i, 3, 2000, 5);
        }
        Check.due("dispatch", x.dispatch(), 0);
        for (int i = 0; i < 4; i++) {
            Check.due("by numbers", x.turn(i, 0), i);
        }
        Check.due("turn", x.turn(4, 0), Check.NONE);
    }

    private static void latestDispatch() {
        RailwayHouse x = new RailwayHouse();
        x.line(0, 10, 3, 0, 1);
        x.dispatch();
        x.line(0, 10, 3, 0, 1);
        Check.due("turn", x.turn(1, 0), Check.NONE);
        x.clearLine();
        Check.due("the latest dispatch stays", x.turn(0, 1), 10);
        Check.due("the latest dispatch stays", x.turn(0, 2), 13);
    }

    private static int best;
    private static int[] bestOrder;

    private static void againstAllOrders() {
        Random random = new Random(7);
        for (int run = 0; run < 300; run++) {
            RailwayHouse x = new RailwayHouse();
            int n = 1 + random.nextInt(7);
            int[][] trains = new int[n][];
            int wide = run % 3 == 0 ? 5 : 60;
            for (int i = 0; i < n; i++) {
                trains[i] = new int[] {random.nextInt(2), random.nextInt(wide), 1 + random.nextInt(wide),
                    random.nextInt(2 * wide), random.nextInt(run % 2 == 0 ? 3 : 21)};
                x.line(trains[i][0], trains[i][1], trains[i][2], trains[i][3], trains[i][4]);
            }
            best = Integer.MAX_VALUE;
            permute(trains, new int[n], 0, 0);
            Check.due("cost of run " + run, x.dispatch(), best);
            int[] begins = begins(trains, bestOrder);
            for (int k = 0; k < n; k++) {
                Check.due("train of run " + run, x.turn(k, 0), bestOrder[k]);
                Check.due("begin of run " + run, x.turn(k, 1), begins[k]);
                Check.due("end of run " + run, x.turn(k, 2), begins[k] + trains[bestOrder[k]][2]);
            }
        }
    }

    private static void permute(int[][] trains, int[] order, int depth, int used) {
        if (depth == trains.length) {
            int[] begins = begins(trains, order);
            int cost = 0;
            for (int k = 0; k < order.length; k++) {
                int[] t = trains[order[k]];
                cost += t[4] * Math.max(0, begins[k] + t[2] - t[3]);
            }
            if (cost < best) {
                best = cost;
                bestOrder = order.clone();
            }
            return;
        }
        for (int t = 0; t < trains.length; t++) {
            if ((used >> t & 1) == 0) {
                order[depth] = t;
                permute(trains, order, depth + 1, used | 1 << t);
            }
        }
    }

    /** Waits minute by minute, as the document's words go. */
    private static int[] begins(int[][] trains, int[] order) {
        int[] begins = new int[order.length];
        for (int k = 0; k < order.length; k++) {
            int[] t = trains[order[k]];
            int begin = t[1];
            while (k > 0 && !mayBegin(trains[order[k - 1]], begins[k - 1], t, begin)) {
                begin++;
            }
            begins[k] = begin;
        }
        return begins;
    }

    private static boolean mayBegin(int[] before, int began, int[] t, int begin) {
        int ended = began + before[2];
        if (before[0] == t[0]) {
            return begin >= began + 3 && begin + t[2] >= ended + 3;
        }
        return begin >= ended;
    }
}
