import java.util.Random;

/** Any call with any arguments in any state: none throws, and one that is refused changes nothing. */
public final class AnyCallTest {
    private static final int[] NUMBERS = {Integer.MIN_VALUE, -10001, -3, -2, -1, 0, 0, 0, 1, 1, 1, 2, 2, 3, 4, 5, 6, 7, 8,
        9, 11, 12, 16, 20, 24, 39, 40, 50, 60, 61, 100, 400, 1000, 9999, 10000, 10001, 1000000, 1000001, Integer.MAX_VALUE};

    private static Random random;

    public static void main(String[] args) {
        int refused = 0;
        for (int run = 0; run < 300; run++) {
            random = new Random(run);
            RailwayHouse x = new RailwayHouse();
            if (run % 4 != 0) {
                Check.load(x, run % 4 == 1 ? Check.STATION : Check.ROW);
            }
            for (int i = 0; i < 400; i++) {
                String before = i % 5 == 0 ? Told.all(x) : null;
                int kind = random.nextInt(100) < 25 ? 22 : random.nextInt(37);
                int answer = call(x, kind);
                if (before != null && answer < 0 && answer >= -4) {
                    refused++;
                    Check.dueText("what there is behind refused call " + kind, Told.all(x), before);
                }
            }
        }
        Check.due("enough were refused", refused > 1000);
        Check.end("AnyCallTest");
    }

    private static int n() {
        return random.nextInt(3) == 0 ? NUMBERS[random.nextInt(NUMBERS.length)] : random.nextInt(12);
    }

    private static int call(RailwayHouse x, int kind) {
        switch (kind) {
            case 0: return x.feed(n(), n(), n(), n(), n());
            case 1: return x.end(n());
            case 2: return random.nextInt(4) == 0 ? reload(x) : 0;
            case 3: return x.set(n());
            case 4: return x.cancel(n());
            case 5: return x.release(n());
            case 6: return x.move(n(), n());
            case 7: return x.force(n(), n(), n());
            case 8: return x.fault(n(), n());
            case 9: return x.reset();
            case 10: return x.block(n(), random.nextBoolean());
            case 11: return x.enter(n(), n(), n(), n(), n());
            case 12: return x.stand(n(), random.nextBoolean());
            case 13: return x.interpose(n(), n());
            case 14: return x.sync();
            case 15: return x.cut();
            case 16: return x.start();
            case 17: return x.station(n(), n(), n());
            case 18: return x.run(n());
            case 19: return x.stopAt(n(), n(), n(), n());
            case 20: return x.journey(n(), n(), n());
            case 21: return x.hold(n(), n(), n(), n());
            case 22: return x.tick(1 + random.nextInt(50));
            case 23: return x.pay(n());
            case 24: return x.give(n());
            case 25: return x.line(n(), n(), n(), n(), n());
            case 26: return random.nextInt(5) == 0 ? x.clearLine() : x.tick(n());
            case 27: return x.dispatch();
            case 28: return random.nextInt(40) == 0 ? x.clear() : 0;
            default: return ask(x, kind);
        }
    }

    private static int ask(RailwayHouse x, int kind) {
        switch (kind) {
            case 29: return x.section(n(), n()) + x.signal(n(), n()) + x.route(n(), n()) & 0;
            case 30: return x.routeSection(n(), n()) + x.routeNeed(n(), n()) + x.conflict(n(), n()) & 0;
            case 31: return x.routeAt(n(), n(), n()) + x.holder(n()) + x.used(n(), n()) & 0;
            case 32: return x.channel(n(), n()) + x.lie(n()) + x.train(n(), n()) + x.leave(n()) & 0;
            case 33: return x.trainOn(n()) + x.audit() + x.place() + x.option(n(), n()) & 0;
            case 34: return x.leg(n(), n(), n()) + x.holdAt(n(), n()) + x.turn(n(), n()) & 0;
            case 35: return x.count(n()) & 0;
            default: return 0;
        }
    }

    /** A refused load tells its place, so its answer is taken for none that is refused here. */
    private static int reload(RailwayHouse x) {
        if (random.nextInt(3) > 0) {
            x.end(0);
            Check.type(x, random.nextBoolean() ? Check.STATION : Check.ROW);
        }
        int answer = x.load();
        Check.due("load", answer > 0 || answer <= -11 && answer >= -18);
        return 0;
    }
}
