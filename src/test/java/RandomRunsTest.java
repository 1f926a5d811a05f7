import java.util.Random;

/**
 * Runs of random calls, the same ones each time: the class must answer what PlainBench answers.
 * In half of the calls the numbers make sense, in the others they are near the edges or beyond.
 */
public final class RandomRunsTest {
    private static final int RUNS = 1500;
    private static int wrong = 0;

    private final Random random;
    private final int run;
    private final HeronsBench bench = new HeronsBench();
    private final PlainBench plain = new PlainBench();
    private final StringBuilder calls = new StringBuilder();

    private RandomRunsTest(int run) {
        this.run = run;
        this.random = new Random(run);
    }

    public static void main(String[] args) {
        int runs = args.length > 0 ? Integer.parseInt(args[0]) : RUNS;
        for (int run = 0; run < runs && wrong < 10; run++) {
            new RandomRunsTest(run).play();
        }
        System.out.println(runs + " random runs, " + wrong + " wrong answers");
        if (wrong != 0) {
            System.exit(1);
        }
    }

    private int from(int least, int most) {
        return least + random.nextInt(most - least + 1);
    }

    /** Around the edges, at times as far beyond them as an int goes. */
    private int edge(int least, int most) {
        return switch (random.nextInt(8)) {
            case 0 -> Integer.MIN_VALUE;
            case 1 -> Integer.MAX_VALUE;
            default -> from(least, most);
        };
    }

    private boolean rarely() {
        return random.nextInt(12) == 0;
    }

    private int aVessel() {
        return rarely() ? edge(-2, 9) : from(0, Math.max(0, plain.vessels.size() - 1));
    }

    private int aPipe() {
        return rarely() ? edge(-2, 15) : from(0, Math.max(0, plain.pipes.size() - 1));
    }

    private int below(int vessel) {
        int last = plain.vessels.size() - 1;
        return rarely() ? edge(-2, 9) : vessel >= last || random.nextInt(4) == 0 ? -1 : from(Math.max(0, vessel + 1), last);
    }

    private void same(String call, long got, long want) {
        calls.append(call).append(" = ").append(want).append("; ");
        if (got != want) {
            wrong++;
            System.out.println("run " + run + ": " + call + " answered " + got + ", due is " + want);
            System.out.println("   behind " + calls);
        }
    }

    private void play() {
        boolean fine = random.nextBoolean();
        int vessels = from(2, 8);
        for (int i = 0; i < vessels; i++) {
            doVessel(fine);
        }
        int pipes = from(2, 14);
        for (int i = 0; i < pipes; i++) {
            doPipe(fine);
        }
        for (int i = from(4, 24); i > 0; i--) {
            doBuild();
        }
        for (int i = from(10, 80); i > 0 && wrong < 10; i--) {
            doAny();
            same("status()", bench.status(), plain.status());
            if (random.nextInt(5) == 0) {
                askAll();
            }
        }
        askAll();
    }

    private void doVessel(boolean fine) {
        int kind = rarely() ? edge(-1, 5) : from(0, 4);
        int brim = rarely() ? edge(-1, 202) : fine ? from(1, 12) : from(1, 200);
        same("vessel(" + kind + ", " + brim + ")", bench.vessel(kind, brim), plain.vessel(kind, brim));
    }

    private void doPipe(boolean fine) {
        int v = from(-1, plain.vessels.size() - 1);
        int to = below(v);
        int amount = rarely() ? edge(-1, 22) : fine ? from(1, 4) : from(1, 20);
        same("pipe(" + v + ", " + to + ", " + amount + ")", bench.pipe(v, to, amount), plain.pipe(v, to, amount));
    }

    private void doBuild() {
        int v = aVessel();
        int p = aPipe();
        switch (random.nextInt(5)) {
            case 0 -> {
                int most = v >= 0 && v < plain.vessels.size() ? plain.vessels.get(v).brim : 10;
                int high = rarely() ? edge(-1, most + 1) : from(1, most);
                int low = rarely() ? edge(-1, most + 1) : from(0, Math.max(1, Math.min(most, high)) - 1);
                same("marks(" + v + ", " + high + ", " + low + ")", bench.marks(v, high, low), plain.marks(v, high, low));
            }
            case 1, 2 -> same("own(" + v + ", " + p + ")", bench.own(v, p), plain.own(v, p));
            case 3 -> {
                int to = below(v);
                same("tips(" + v + ", " + to + ")", bench.tips(v, to), plain.tips(v, to));
            }
            default -> {
                int to = below(v);
                same("over(" + v + ", " + to + ")", bench.over(v, to), plain.over(v, to));
            }
        }
    }

    private void doAny() {
        switch (random.nextInt(14)) {
            case 0 -> doVessel(true);
            case 1 -> doPipe(true);
            case 2 -> doBuild();
            case 3, 4 -> {
                int v = aVessel();
                int n = rarely() ? edge(-1, 1002) : from(1, 30);
                same("fill(" + v + ", " + n + ")", bench.fill(v, n), plain.fill(v, n));
            }
            case 5 -> {
                int p = aPipe();
                boolean is = random.nextBoolean();
                same("shut(" + p + ", " + is + ")", bench.shut(p, is), plain.shut(p, is));
            }
            case 6 -> {
                int p = aPipe();
                int n = rarely() ? edge(-1, 22) : from(1, 20);
                same("amount(" + p + ", " + n + ")", bench.amount(p, n), plain.amount(p, n));
            }
            case 7, 8, 9 -> {
                int here = plain.now(0) / plain.now(1);
                int until = rarely() ? edge(-1, 10002) : here + from(0, random.nextInt(5) == 0 ? 400 : 20);
                same("go(" + until + ")", bench.go(until), plain.go(until));
            }
            case 10, 11 -> doTune();
            case 12 -> {
                int v = aVessel();
                int act = rarely() ? edge(-1, 4) : from(0, 3);
                int x = random.nextBoolean() ? random.nextInt() : from(-20, 20);
                same("act(" + v + ", " + act + ", " + x + ")", bench.act(v, act, x), plain.act(v, act, x));
            }
            default -> {
                int what = rarely() ? edge(-1, 7) : from(0, 6);
                int n = rarely() ? edge(-102, 102) : from(-9, 9);
                int k = rarely() ? edge(-102, 102) : from(-9, 9);
                same("forge(" + what + ", " + n + ", " + k + ")", bench.forge(what, n, k), plain.forge(what, n, k));
            }
        }
    }

    private void doTune() {
        int p = aPipe();
        int low = rarely() ? edge(-1, 22) : from(1, 8);
        int high = rarely() ? edge(-1, 22) : Math.max(low, from(1, 20));
        int v = aVessel();
        for (PlainBench.Vessel each : plain.vessels) {
            if (each.floats() && random.nextBoolean()) {
                v = each.number;
            }
        }
        int when = rarely() ? edge(-1, 10002) : aShut(p, Math.min(high, 20), v);
        same("tune(" + p + ", " + low + ", " + high + ", " + v + ", " + when + ")",
                bench.tune(p, low, high, v, when), plain.tune(p, low, high, v, when));
    }

    /** A whole moment at which the float first shuts with one of the amounts, so that tunes are found, too. */
    private int aShut(int pipe, int high, int vessel) {
        for (int n = high; n > 0; n--) {
            Frac at = plain.firstShutWith(pipe, n, vessel);
            if (at != null && at.below.intValueExact() == 1 && random.nextInt(3) != 0) {
                return at.above.intValueExact();
            }
        }
        return plain.now(0) / plain.now(1) + from(0, 12);
    }

    private void askAll() {
        for (int what = -1; what <= 7; what++) {
            same("now(" + what + ")", bench.now(what), plain.now(what));
            same("next(" + what + ")", bench.next(what), plain.next(what));
            same("count(" + what + ")", bench.count(what), plain.count(what));
            same("sum(" + what + ")", bench.sum(what), plain.sum(what));
            same("round(" + what + ")", bench.round(what), plain.round(what));
        }
        for (int v = -1; v <= 8; v++) {
            same("rate(" + v + ")", bench.rate(v), plain.rate(v));
            same("flood(" + v + ")", bench.flood(v), plain.flood(v));
            for (int what = -1; what <= 2; what++) {
                same("level(" + v + ", " + what + ")", bench.level(v, what), plain.level(v, what));
            }
            for (int what = -1; what <= 9; what++) {
                same("told(" + v + ", " + what + ")", bench.told(v, what), plain.told(v, what));
            }
        }
        for (int p = -1; p <= 14; p++) {
            same("flow(" + p + ")", bench.flow(p), plain.flow(p));
            for (int what = -1; what <= 5; what++) {
                same("pipeTold(" + p + ", " + what + ")", bench.pipeTold(p, what), plain.pipeTold(p, what));
            }
        }
        for (int i = Math.max(-1, Math.min(plain.events.size(), 402) - 12); i <= plain.events.size(); i++) {
            for (int what = -1; what <= 4; what++) {
                same("event(" + i + ", " + what + ")", bench.event(i, what), plain.event(i, what));
            }
        }
        for (int i = -1; i <= plain.trace.size(); i++) {
            same("trace(" + i + ")", bench.trace(i), plain.trace(i));
        }
    }
}
