/** Each promise of the document by its number: ordinary inputs, the edges that it names, wrong inputs. */
public final class PromisesTest {
    private static int promise = 0;
    private static int checks = 0;
    private static int wrong = 0;

    private static void due(String call, long got, long want) {
        checks++;
        if (got != want) {
            wrong++;
            System.out.println("promise " + promise + ": " + call + " answered " + got + ", due is " + want);
        }
    }

    /** The call answered -1 and left this STATUS. */
    private static void refused(HeronsBench x, String call, long got, int status) {
        due(call, got, -1);
        due("status() behind " + call, x.status(), status);
    }

    private static void done(HeronsBench x, String call, long got, long want) {
        due(call, got, want);
        due("status() behind " + call, x.status(), 0);
    }

    private static void fraction(String what, long above, long below, long wantAbove, long wantBelow) {
        due(what + " above", above, wantAbove);
        due(what + " below", below, wantBelow);
    }

    private static void event(HeronsBench x, int i, int kind, int vessel, int above, int below) {
        due("event(" + i + ", 0)", x.event(i, 0), kind);
        due("event(" + i + ", 1)", x.event(i, 1), vessel);
        due("event(" + i + ", 2)", x.event(i, 2), above);
        due("event(" + i + ", 3)", x.event(i, 3), below);
    }

    public static void main(String[] args) {
        newObject();
        vessel();
        marks();
        own();
        tips();
        over();
        pipe();
        fill();
        shut();
        amount();
        go();
        goSpent();
        now();
        next();
        level();
        rateFlowFlood();
        told();
        pipeTold();
        count();
        event();
        sum();
        round();
        tune();
        act();
        trace();
        forge();
        status();
        System.out.println(checks + " checks, " + wrong + " wrong");
        if (wrong != 0) {
            System.exit(1);
        }
    }

    private static void newObject() {
        promise = 1;
        HeronsBench x = new HeronsBench();
        due("NONE", HeronsBench.NONE, -1);
        for (int what = 0; what <= 3; what++) {
            due("count(" + what + ")", x.count(what), 0);
        }
        fraction("now", x.now(0), x.now(1), 0, 1);
        due("now(2)", x.now(2), 1);
        due("next(0)", x.next(0), -1);
        due("status()", x.status(), 0);
        due("sum(2)", x.sum(2), 0);
        fraction("spring", x.sum(0), x.sum(1), 0, 1);
        fraction("drain", x.sum(3), x.sum(4), 0, 1);
        fraction("inside", x.sum(5), x.sum(6), 0, 1);
        due("round(0)", x.round(0), 0);
        done(x, "go(7)", x.go(7), 0);
        fraction("now", x.now(0), x.now(1), 7, 1);
    }

    private static void vessel() {
        promise = 2;
        HeronsBench x = new HeronsBench();
        refused(x, "vessel(-1, 5)", x.vessel(-1, 5), 1);
        refused(x, "vessel(5, 5)", x.vessel(5, 5), 1);
        refused(x, "vessel(0, 0)", x.vessel(0, 0), 1);
        refused(x, "vessel(0, 201)", x.vessel(0, 201), 1);
        refused(x, "vessel(least, least)", x.vessel(Integer.MIN_VALUE, Integer.MIN_VALUE), 1);
        due("count(0)", x.count(0), 0);
        done(x, "vessel(0, 1)", x.vessel(0, 1), 0);
        done(x, "vessel(1, 200)", x.vessel(1, 200), 1);
        done(x, "vessel(2, 30)", x.vessel(2, 30), 2);
        done(x, "vessel(3, 40)", x.vessel(3, 40), 3);
        done(x, "vessel(4, 50)", x.vessel(4, 50), 4);
        int[][] want = {
            {0, 1, -1, -1, -1, -1, -1, -1, -1}, {1, 200, 200, -1, -1, -1, -1, 0, -1},
            {2, 30, -1, -1, -1, -1, -1, -1, -1}, {3, 40, 40, 0, -1, -1, -1, -1, -1},
            {4, 50, 50, 0, -1, -1, -1, -1, 0}};
        for (int v = 0; v < want.length; v++) {
            fraction("level of " + v, x.level(v, 0), x.level(v, 1), 0, 1);
            for (int what = 0; what < want[v].length; what++) {
                due("told(" + v + ", " + what + ")", x.told(v, what), want[v][what]);
            }
        }
        for (int v = 5; v < 8; v++) {
            due("vessel(0, 9)", x.vessel(0, 9), v);
        }
        refused(x, "a ninth", x.vessel(0, 9), 2);
        refused(x, "a ninth of no kind", x.vessel(7, 9), 1);
        due("count(0)", x.count(0), 8);
    }

    private static void marks() {
        promise = 3;
        HeronsBench x = new HeronsBench();
        x.vessel(0, 10);
        x.vessel(1, 10);
        x.vessel(2, 10);
        x.vessel(3, 10);
        x.vessel(4, 10);
        refused(x, "marks(-1, 5, 1)", x.marks(-1, 5, 1), 1);
        refused(x, "marks(5, 5, 1)", x.marks(5, 5, 1), 1);
        refused(x, "marks of a VESSEL", x.marks(0, 5, 1), 3);
        refused(x, "marks of a TIPPER", x.marks(2, -5, 99), 3);
        refused(x, "a SIPHON's HIGH 0", x.marks(1, 0, 0), 1);
        refused(x, "a SIPHON's HIGH 11", x.marks(1, 11, 0), 1);
        refused(x, "a FLOAT's HIGH 0", x.marks(3, 0, 0), 1);
        refused(x, "a FLOAT's HIGH 11", x.marks(3, 11, 0), 1);
        refused(x, "a FLOAT's LOW -1", x.marks(3, 5, -1), 1);
        refused(x, "a CLOCK's LOW at HIGH", x.marks(4, 5, 5), 1);
        due("told(3, 2)", x.told(3, 2), 10);
        due("told(3, 3)", x.told(3, 3), 0);
        done(x, "marks(1, 1, -77)", x.marks(1, 1, -77), 1);
        due("told(1, 2)", x.told(1, 2), 1);
        due("told(1, 3)", x.told(1, 3), -1);
        done(x, "marks(3, 10, 9)", x.marks(3, 10, 9), 1);
        done(x, "marks(4, 1, 0)", x.marks(4, 1, 0), 1);
        due("told(3, 2)", x.told(3, 2), 10);
        due("told(3, 3)", x.told(3, 3), 9);
        due("told(4, 2)", x.told(4, 2), 1);
        // a mark put below the water is an act of a hand: the SIPHON begins at once
        x.marks(1, 8, 0);
        x.fill(1, 5);
        due("not yet", x.told(1, 7), 0);
        x.marks(1, 5, 0);
        due("begun", x.told(1, 7), 1);
        event(x, 0, 2, 1, 0, 1);
    }

    private static void own() {
        promise = 4;
        HeronsBench x = new HeronsBench();
        x.vessel(1, 10);
        x.vessel(0, 10);
        x.vessel(2, 10);
        x.vessel(3, 10);
        x.pipe(-1, 0, 1);
        x.pipe(0, 1, 2);
        x.pipe(0, 3, 3);
        refused(x, "own(-1, 0)", x.own(-1, 0), 1);
        refused(x, "own(4, 0)", x.own(4, 0), 1);
        refused(x, "own(0, -1)", x.own(0, -1), 1);
        refused(x, "own(0, 3)", x.own(0, 3), 1);
        refused(x, "a VESSEL's, no such PIPE", x.own(1, 3), 1);
        refused(x, "a VESSEL's", x.own(1, 1), 3);
        refused(x, "a TIPPER's", x.own(2, 1), 3);
        refused(x, "a SIPHON's that does not come from it", x.own(0, 0), 3);
        due("told(0, 4)", x.told(0, 4), -1);
        due("pipeTold(1, 4)", x.pipeTold(1, 4), 1);
        done(x, "own(0, 1)", x.own(0, 1), 1);
        due("told(0, 4)", x.told(0, 4), 1);
        due("a SIPHON's OWN does not run", x.pipeTold(1, 4), 0);
        due("but it is OPEN", x.pipeTold(1, 3), 1);
        done(x, "in place of another", x.own(0, 2), 1);
        due("told(0, 4)", x.told(0, 4), 2);
        due("pipeTold(1, 4)", x.pipeTold(1, 4), 1);
        due("pipeTold(2, 4)", x.pipeTold(2, 4), 0);
        done(x, "any PIPE may be a FLOAT's", x.own(3, 0), 1);
        due("told(3, 4)", x.told(3, 4), 0);
        // a FLOAT that is full shuts what becomes its OWN at once
        x.fill(3, 10);
        due("pipeTold(0, 3)", x.pipeTold(0, 3), 0);
        x.own(3, 1);
        due("pipeTold(1, 3)", x.pipeTold(1, 3), 0);
        due("the earlier one stays as it is", x.pipeTold(0, 3), 0);
        HeronsBench y = new HeronsBench();
        y.vessel(1, 10);
        y.pipe(0, -1, 1);
        y.own(0, 0);
        y.fill(0, 9);
        due("PIPE 0 of a SIPHON does not run", y.pipeTold(0, 4), 0);
        due("REST", y.next(0), -1);
        y.fill(0, 1);
        due("PIPE 0 of a SIPHON runs", y.pipeTold(0, 4), 1);
        due("next(0)", y.next(0), 10);
    }

    private static void tips() {
        promise = 5;
        HeronsBench x = new HeronsBench();
        x.vessel(0, 10);
        x.vessel(2, 10);
        x.vessel(2, 10);
        x.vessel(0, 10);
        refused(x, "tips(-1, 1)", x.tips(-1, 1), 1);
        refused(x, "tips(4, -1)", x.tips(4, -1), 1);
        refused(x, "tips(1, 0)", x.tips(1, 0), 1);
        refused(x, "tips(1, 1)", x.tips(1, 1), 1);
        refused(x, "tips(1, 4)", x.tips(1, 4), 1);
        refused(x, "tips(1, -2)", x.tips(1, -2), 1);
        refused(x, "a VESSEL's", x.tips(0, 1), 3);
        refused(x, "a VESSEL's, no such", x.tips(0, 4), 1);
        done(x, "tips(1, 2)", x.tips(1, 2), 1);
        due("told(1, 5)", x.told(1, 5), 2);
        // one tips into the other, by numbers at one moment; the later one is filled ahead of its turn
        x.tips(2, 3);
        x.fill(1, 10);
        event(x, 0, 1, 1, 0, 1);
        event(x, 1, 1, 2, 0, 1);
        due("level(1)", x.level(1, 0), 0);
        due("level(2)", x.level(2, 0), 0);
        due("level(3)", x.level(3, 0), 10);
        // a hand's act is at a moment of its own
        x.fill(1, 9);
        due("count(2)", x.count(2), 2);
        x.fill(1, 1);
        due("count(2)", x.count(2), 4);
        done(x, "to the DRAIN again", x.tips(1, -1), 1);
        due("told(1, 5)", x.told(1, 5), -1);
        due("sum(3)", x.sum(3), 10);
        x.fill(1, 10);
        due("sum(3)", x.sum(3), 20);
    }

    private static void over() {
        promise = 6;
        HeronsBench x = new HeronsBench();
        x.vessel(0, 4);
        x.vessel(0, 5);
        x.vessel(0, 6);
        refused(x, "over(-1, 1)", x.over(-1, 1), 1);
        refused(x, "over(3, -1)", x.over(3, -1), 1);
        refused(x, "over(1, 0)", x.over(1, 0), 1);
        refused(x, "over(1, 1)", x.over(1, 1), 1);
        refused(x, "over(1, 3)", x.over(1, 3), 1);
        refused(x, "over(1, -2)", x.over(1, -2), 1);
        done(x, "over(0, 1)", x.over(0, 1), 1);
        done(x, "over(1, 2)", x.over(1, 2), 1);
        due("told(0, 6)", x.told(0, 6), 1);
        x.fill(0, 11);
        due("level(0)", x.level(0, 0), 4);
        due("level(1)", x.level(1, 0), 5);
        due("level(2)", x.level(2, 0), 2);
        x.fill(0, 6);
        due("level(2)", x.level(2, 0), 6);
        due("sum(3)", x.sum(3), 2);
        done(x, "over(0, -1)", x.over(0, -1), 1);
        due("told(0, 6)", x.told(0, 6), -1);
        x.fill(0, 3);
        due("sum(3)", x.sum(3), 5);
    }

    private static void pipe() {
        promise = 7;
        HeronsBench x = new HeronsBench();
        refused(x, "no VESSELS", x.pipe(-1, 0, 1), 1);
        x.vessel(0, 10);
        x.vessel(0, 10);
        refused(x, "pipe(-1, -1, 1)", x.pipe(-1, -1, 1), 1);
        refused(x, "pipe(1, 0, 1)", x.pipe(1, 0, 1), 1);
        refused(x, "pipe(1, 1, 1)", x.pipe(1, 1, 1), 1);
        refused(x, "pipe(-2, 1, 1)", x.pipe(-2, 1, 1), 1);
        refused(x, "pipe(2, -1, 1)", x.pipe(2, -1, 1), 1);
        refused(x, "pipe(0, 2, 1)", x.pipe(0, 2, 1), 1);
        refused(x, "pipe(0, -2, 1)", x.pipe(0, -2, 1), 1);
        refused(x, "pipe(0, 1, 0)", x.pipe(0, 1, 0), 1);
        refused(x, "pipe(0, 1, 21)", x.pipe(0, 1, 21), 1);
        done(x, "pipe(-1, 0, 1)", x.pipe(-1, 0, 1), 0);
        done(x, "pipe(0, 1, 20)", x.pipe(0, 1, 20), 1);
        done(x, "pipe(1, -1, 7)", x.pipe(1, -1, 7), 2);
        for (int p = 3; p < 14; p++) {
            due("pipe(0, -1, 3)", x.pipe(0, -1, 3), p);
        }
        refused(x, "a fifteenth", x.pipe(0, -1, 3), 2);
        refused(x, "a fifteenth of no amount", x.pipe(0, -1, 0), 1);
        due("count(1)", x.count(1), 14);
        due("pipeTold(13, 2)", x.pipeTold(13, 2), 3);
    }

    private static void fill() {
        promise = 8;
        HeronsBench x = new HeronsBench();
        x.vessel(0, 10);
        x.vessel(3, 20);
        x.over(0, 1);
        x.pipe(-1, 0, 3);
        x.own(1, 0);
        x.marks(1, 8, 2);
        refused(x, "fill(-1, 1)", x.fill(-1, 1), 1);
        refused(x, "fill(2, 1)", x.fill(2, 1), 1);
        refused(x, "fill(0, 0)", x.fill(0, 0), 1);
        refused(x, "fill(0, 1001)", x.fill(0, 1001), 1);
        due("sum(2)", x.sum(2), 0);
        done(x, "fill(0, 1)", x.fill(0, 1), 1);
        due("level(0)", x.level(0, 0), 1);
        done(x, "fill(0, 17)", x.fill(0, 17), 1);
        due("level(1)", x.level(1, 0), 8);
        event(x, 0, 4, 1, 0, 1);
        done(x, "fill(0, 1000)", x.fill(0, 1000), 1);
        due("level(1)", x.level(1, 0), 20);
        due("sum(2)", x.sum(2), 1018);
        due("sum(3)", x.sum(3), 988);
        due("count(2)", x.count(2), 1);
    }

    private static void shut() {
        promise = 9;
        HeronsBench x = new HeronsBench();
        x.vessel(3, 10);
        x.pipe(-1, 0, 2);
        x.pipe(0, -1, 1);
        refused(x, "shut(-1, true)", x.shut(-1, true), 1);
        refused(x, "shut(2, false)", x.shut(2, false), 1);
        done(x, "OPEN already", x.shut(0, false), 0);
        done(x, "shut(0, true)", x.shut(0, true), 1);
        due("pipeTold(0, 3)", x.pipeTold(0, 3), 0);
        due("pipeTold(0, 4)", x.pipeTold(0, 4), 0);
        due("pipeTold(1, 3)", x.pipeTold(1, 3), 1);
        done(x, "SHUT already", x.shut(0, true), 0);
        done(x, "shut(0, false)", x.shut(0, false), 1);
        due("pipeTold(0, 3)", x.pipeTold(0, 3), 1);
        // a FLOAT that is empty opens its OWN at once, whatever the hand did
        x.own(0, 0);
        done(x, "against the FLOAT", x.shut(0, true), 1);
        due("pipeTold(0, 3)", x.pipeTold(0, 3), 1);
        event(x, 0, 5, 0, 0, 1);
        x.fill(0, 10);
        event(x, 1, 4, 0, 0, 1);
        done(x, "against the full FLOAT", x.shut(0, false), 1);
        due("pipeTold(0, 3)", x.pipeTold(0, 3), 0);
        event(x, 2, 4, 0, 0, 1);
        // two FLOATS with one OWN: at each hand's act the full one shuts it, the empty one opens it
        x.vessel(3, 10);
        due("count(2)", x.count(2), 3);
        x.own(1, 0);
        event(x, 3, 5, 1, 0, 1);
        due("shut(1, false)", x.shut(1, false), 0);
        event(x, 4, 4, 0, 0, 1);
        event(x, 5, 5, 1, 0, 1);
        due("count(2)", x.count(2), 6);
        x.shut(7, true);
        due("a refused act is none", x.count(2), 6);
    }

    private static void amount() {
        promise = 10;
        HeronsBench x = new HeronsBench();
        x.vessel(0, 10);
        x.pipe(-1, 0, 3);
        refused(x, "amount(-1, 1)", x.amount(-1, 1), 1);
        refused(x, "amount(1, 1)", x.amount(1, 1), 1);
        refused(x, "amount(0, 0)", x.amount(0, 0), 1);
        refused(x, "amount(0, 21)", x.amount(0, 21), 1);
        due("pipeTold(0, 2)", x.pipeTold(0, 2), 3);
        done(x, "amount(0, 20)", x.amount(0, 20), 3);
        done(x, "amount(0, 1)", x.amount(0, 1), 20);
        due("flow(0)", x.flow(0), 1);
        due("next(0)", x.next(0), 10);
    }

    private static void go() {
        promise = 11;
        HeronsBench x = new HeronsBench();
        x.vessel(2, 1);
        x.pipe(-1, 0, 1);
        refused(x, "go(-1)", x.go(-1), 1);
        refused(x, "go(10001)", x.go(10001), 1);
        done(x, "go(0)", x.go(0), 0);
        done(x, "150 moments of changes", x.go(150), 150);
        done(x, "go(150)", x.go(150), 0);
        refused(x, "go(149)", x.go(149), 1);
        refused(x, "a change behind 150 moments", x.go(301), 4);
        fraction("now", x.now(0), x.now(1), 300, 1);
        due("which stand", x.count(2), 300);
        done(x, "go(301)", x.go(301), 1);
        x.shut(0, true);
        done(x, "REST", x.go(10000), 0);
        fraction("now", x.now(0), x.now(1), 10000, 1);
        refused(x, "go(10001)", x.go(10001), 1);
        // till a moment between two changes, and through all EVENTS of the last one
        HeronsBench y = new HeronsBench();
        y.vessel(2, 3);
        y.vessel(1, 9);
        y.vessel(3, 9);
        y.pipe(-1, 0, 2);
        y.tips(0, 1);
        y.pipe(1, 2, 4);
        y.own(1, 1);
        y.own(2, 0);
        y.marks(1, 6, 0);
        y.marks(2, 4, 1);
        done(y, "go(2)", y.go(2), 1);
        fraction("level(0)", y.level(0, 0), y.level(0, 1), 1, 1);
        done(y, "go(3)", y.go(3), 2);
        event(y, 0, 1, 0, 3, 2);
        event(y, 1, 1, 0, 3, 1);
        event(y, 2, 2, 1, 3, 1);
        // the FLOAT is at 4 behind one unit of time, the SIPHON at 2; it ends empty behind a half
        done(y, "go(4)", y.go(4), 1);
        event(y, 3, 4, 2, 4, 1);
        done(y, "go(9)", y.go(9), 1);
        event(y, 4, 3, 1, 9, 2);
        fraction("level(0)", y.level(0, 0), y.level(0, 1), 2, 1);
        fraction("level(2)", y.level(2, 0), y.level(2, 1), 6, 1);
    }

    /** Each VESSEL is full behind 1/19, 1/17, 1/13, 1/11 more: the last makes the grain 46189. */
    private static HeronsBench spending() {
        HeronsBench x = new HeronsBench();
        for (int v = 0; v < 4; v++) {
            x.vessel(0, 1);
        }
        for (int v = 0; v < 3; v++) {
            x.over(v, v + 1);
        }
        x.pipe(-1, 0, 19);
        x.pipe(1, -1, 2);
        x.pipe(2, -1, 4);
        x.pipe(3, -1, 2);
        return x;
    }

    private static void goSpent() {
        HeronsBench x = spending();
        refused(x, "SPENT", x.go(1), 4);
        fraction("now", x.now(0), x.now(1), 791, 4199);
        due("now(2)", x.now(2), 4199);
        fraction("next, all the same", x.next(0), x.next(1), 12900, 46189);
        refused(x, "SPENT again", x.go(1), 4);
        due("now(0)", x.now(0), 791);
        refused(x, "below now", x.go(0), 1);
        x.amount(0, 6);
        // VESSEL 2 is no longer below what comes: 6 - 2 - 4 leaves nothing for VESSEL 3
        due("next(0)", x.next(0), -1);
        done(x, "go(1)", x.go(1), 0);
        fraction("now", x.now(0), x.now(1), 1, 1);
        // the grain 10000 is gone to: a FLOAT full at 1/80 slows the other's rise from 128 to 125
        HeronsBench y = new HeronsBench();
        y.vessel(3, 1);
        y.vessel(1, 2);
        y.pipe(-1, 1, 3);
        y.own(0, 0);
        pipes(y, -1, 0, 80);
        pipes(y, -1, 1, 125);
        done(y, "GRAIN 10000", y.go(1), 2);
        event(y, 0, 4, 0, 1, 80);
        event(y, 1, 2, 1, 157, 10000);
        // and 10001 is not
        HeronsBench z = new HeronsBench();
        z.vessel(0, 1);
        z.vessel(0, 1);
        z.over(0, 1);
        pipes(z, -1, 0, 137);
        pipes(z, 1, -1, 64);
        refused(z, "GRAIN 10001", z.go(1), 4);
        fraction("now", z.now(0), z.now(1), 1, 137);
        fraction("next", z.next(0), z.next(1), 210, 10001);
    }

    /** As many PIPES as are needed for that much. */
    private static void pipes(HeronsBench x, int from, int to, int all) {
        for (int left = all; left > 0; left -= 20) {
            x.pipe(from, to, Math.min(left, 20));
        }
    }

    private static void now() {
        promise = 12;
        HeronsBench x = spending();
        due("now(-1)", x.now(-1), -1);
        due("now(3)", x.now(3), -1);
        x.go(1);
        due("now(0)", x.now(0), 791);
        due("now(1)", x.now(1), 4199);
        due("now(2)", x.now(2), 4199);
        // the grain is of all LEVELS, too: at 1 the level is 3/2
        HeronsBench y = new HeronsBench();
        y.vessel(2, 3);
        y.vessel(0, 100);
        y.pipe(0, 1, 1);
        y.pipe(-1, 0, 3);
        y.vessel(1, 100);
        y.marks(2, 3, 0);
        y.pipe(-1, 2, 3);
        y.pipe(2, -1, 4);
        y.own(2, 3);
        due("now(2)", y.now(2), 1);
        y.go(2);
        due("TIPPED at 3/2", y.event(1, 3), 2);
        due("whole at 2", y.now(2), 1);
        fraction("now", y.now(0), y.now(1), 2, 1);
        HeronsBench z = new HeronsBench();
        z.vessel(1, 9);
        z.vessel(0, 200);
        z.pipe(-1, 0, 3);
        z.pipe(0, 1, 5);
        z.own(0, 1);
        z.marks(0, 2, 0);
        z.go(1);
        // begun at 2/3, then down by 2: 2 - 2/3, and 5/3 in the other
        fraction("level(0)", z.level(0, 0), z.level(0, 1), 4, 3);
        fraction("level(1)", z.level(1, 0), z.level(1, 1), 5, 3);
        due("now(1)", z.now(1), 1);
        due("now(2)", z.now(2), 3);
        // water poured together becomes whole again: the other one is full, the rest goes to the DRAIN
        z.fill(1, 1000);
        due("now(2)", z.now(2), 3);
        z.fill(0, 1000);
        due("the DRAIN took 3 in all", z.sum(4), 1);
        due("now(2)", z.now(2), 1);
        // what the SPRING gave and the DRAIN took counts, too: a PIPE over a brim is SHUT at 1/3
        HeronsBench w = new HeronsBench();
        w.vessel(3, 1);
        w.vessel(0, 10);
        w.pipe(-1, 0, 3);
        w.pipe(-1, 1, 1);
        w.own(0, 1);
        w.fill(1, 10);
        due("go(1)", w.go(1), 1);
        fraction("now", w.now(0), w.now(1), 1, 1);
        due("level(0, 1)", w.level(0, 1), 1);
        fraction("spring", w.sum(0), w.sum(1), 10, 3);
        fraction("drain", w.sum(3), w.sum(4), 7, 3);
        due("now(2)", w.now(2), 3);
    }

    private static void next() {
        promise = 13;
        HeronsBench x = new HeronsBench();
        x.vessel(0, 10);
        x.pipe(-1, 0, 4);
        due("next(-1)", x.next(-1), -1);
        due("next(2)", x.next(2), -1);
        fraction("full", x.next(0), x.next(1), 5, 2);
        x.go(1);
        fraction("full, still", x.next(0), x.next(1), 5, 2);
        x.go(3);
        due("REST", x.next(0), -1);
        due("REST", x.next(1), -1);
        x.shut(0, true);
        x.pipe(0, -1, 3);
        fraction("empty", x.next(0), x.next(1), 19, 3);
        x.go(10000);
        x.fill(0, 5);
        fraction("beyond 10000", x.next(0), x.next(1), 30005, 3);
        // marks: a SIPHON's HIGH, a FLOAT's HIGH while its OWN is OPEN, its LOW while that is SHUT
        HeronsBench y = new HeronsBench();
        y.vessel(1, 10);
        y.pipe(-1, 0, 1);
        y.marks(0, 6, 0);
        due("a SIPHON without an OWN", y.next(0), 6);
        y.go(6);
        due("siphoning: the brim", y.next(0), 10);
        HeronsBench z = new HeronsBench();
        z.vessel(3, 10);
        z.pipe(-1, 0, 2);
        z.pipe(0, -1, 1);
        z.marks(0, 6, 2);
        due("a FLOAT without an OWN: the brim", z.next(0), 10);
        z.own(0, 0);
        due("HIGH", z.next(0), 6);
        z.go(6);
        due("LOW", z.next(0), 10);
        z.go(7);
        z.own(0, 1);
        due("its OWN is OPEN: not LOW, but empty", z.next(0), 12);
        // an act above LOW opens nothing, at LOW the FLOAT opens
        HeronsBench w = new HeronsBench();
        w.vessel(3, 10);
        w.pipe(-1, 0, 2);
        w.pipe(0, -1, 1);
        w.own(0, 0);
        w.marks(0, 8, 3);
        due("go(12)", w.go(12), 1);
        due("level(0)", w.level(0, 0), 4);
        w.amount(1, 1);
        due("not yet", w.count(2), 1);
        due("LOW", w.next(0), 13);
        due("go(13)", w.go(13), 1);
        event(w, 1, 5, 0, 13, 1);
    }

    private static void level() {
        promise = 14;
        HeronsBench x = new HeronsBench();
        x.vessel(1, 7);
        x.vessel(0, 9);
        x.pipe(-1, 0, 4);
        x.pipe(0, 1, 20);
        x.own(0, 1);
        x.marks(0, 5, 0);
        x.go(1);
        fraction("level(0)", x.level(0, 0), x.level(0, 1), 4, 1);
        due("level(-1, 0)", x.level(-1, 0), -1);
        due("level(2, 0)", x.level(2, 0), -1);
        due("level(0, -1)", x.level(0, -1), -1);
        due("level(0, 2)", x.level(0, 2), -1);
        // begun at 5/4, empty 5/16 later, at 25/16; 25/4 are in the other by then, 7/16 * 4 in this one at 2
        x.go(2);
        fraction("level(0)", x.level(0, 0), x.level(0, 1), 7, 4);
        fraction("level(1)", x.level(1, 0), x.level(1, 1), 25, 4);
        x.fill(1, 1);
        fraction("level(1)", x.level(1, 0), x.level(1, 1), 29, 4);
    }

    private static void rateFlowFlood() {
        HeronsBench x = new HeronsBench();
        x.vessel(0, 10);
        x.vessel(0, 10);
        x.vessel(0, 10);
        x.pipe(-1, 0, 9);
        x.pipe(0, 1, 5);
        x.pipe(0, 2, 6);
        x.pipe(0, -1, 1);
        x.over(1, 2);
        promise = 15;
        due("rate(-1)", x.rate(-1), -1000000);
        due("rate(3)", x.rate(3), -1000000);
        due("rate(0)", x.rate(0), 0);
        due("rate(1)", x.rate(1), 5);
        due("rate(2)", x.rate(2), 4);
        promise = 16;
        due("flow(-1)", x.flow(-1), -1);
        due("flow(4)", x.flow(4), -1);
        due("flow(0)", x.flow(0), 9);
        due("empty: by numbers, all of it", x.flow(1), 5);
        due("what is left", x.flow(2), 4);
        due("nothing is left", x.flow(3), 0);
        promise = 17;
        due("flood(-1)", x.flood(-1), -1);
        due("flood(3)", x.flood(3), -1);
        due("flood(1)", x.flood(1), 0);
        x.go(2);
        due("VESSEL 1 is full", x.flood(1), 5);
        promise = 15;
        due("a full one does not rise", x.rate(1), 0);
        due("what goes OVER comes in", x.rate(2), 9);
        x.fill(0, 10);
        due("all three run", x.rate(0), -3);
        due("flow(3)", x.flow(3), 1);
        promise = 17;
        due("a full one that falls", x.flood(0), 0);
        x.shut(2, true);
        due("a full one that rises", x.flood(0), 3);
        promise = 16;
        due("SHUT", x.flow(2), 0);
        promise = 15;
        due("rate(0)", x.rate(0), 0);
        // OVER to the DRAIN counts in what came to it: 3 + 1 from VESSEL 0, 5 over VESSEL 1 into 2
        long drain = x.sum(3);
        due("whole", x.sum(4), 1);
        x.over(1, -1);
        x.go(3);
        promise = 17;
        due("came to the DRAIN", x.sum(3) - drain, 9);
    }

    private static void told() {
        promise = 18;
        HeronsBench x = new HeronsBench();
        x.vessel(1, 10);
        x.vessel(2, 20);
        x.vessel(4, 30);
        x.pipe(-1, 2, 5);
        x.pipe(0, 1, 5);
        x.own(0, 1);
        x.own(2, 0);
        x.marks(0, 7, 3);
        x.marks(2, 9, 4);
        x.tips(1, 2);
        x.over(0, 2);
        x.over(1, 2);
        x.fill(0, 8);
        x.fill(2, 9);
        int[][] want = {
            {1, 10, 7, -1, 1, -1, 2, 1, -1}, {2, 20, -1, -1, -1, 2, 2, -1, -1}, {4, 30, 9, 4, 0, -1, -1, -1, 1}};
        for (int v = 0; v < want.length; v++) {
            for (int what = 0; what < want[v].length; what++) {
                due("told(" + v + ", " + what + ")", x.told(v, what), want[v][what]);
            }
            due("told(.., -1)", x.told(v, -1), -1);
            due("told(.., 9)", x.told(v, 9), -1);
        }
        due("told(-1, 0)", x.told(-1, 0), -1);
        due("told(3, 0)", x.told(3, 0), -1);
        // emptied, the SIPHON ends; the CLOCK counts once more
        x.shut(0, false);
        due("told(2, 8)", x.told(2, 8), 2);
        x.go(2);
        due("told(0, 7)", x.told(0, 7), 0);
    }

    private static void pipeTold() {
        promise = 19;
        HeronsBench x = new HeronsBench();
        x.vessel(1, 10);
        x.vessel(0, 10);
        x.pipe(-1, 0, 2);
        x.pipe(0, 1, 20);
        x.pipe(1, -1, 7);
        x.own(0, 1);
        int[][] want = {{-1, 0, 2, 1, 1}, {0, 1, 20, 1, 0}, {1, -1, 7, 1, 1}};
        for (int p = 0; p < want.length; p++) {
            for (int what = 0; what < want[p].length; what++) {
                due("pipeTold(" + p + ", " + what + ")", x.pipeTold(p, what), want[p][what]);
            }
            due("pipeTold(.., -1)", x.pipeTold(p, -1), -2);
            due("pipeTold(.., 5)", x.pipeTold(p, 5), -2);
        }
        due("pipeTold(-1, 0)", x.pipeTold(-1, 0), -2);
        due("pipeTold(3, 0)", x.pipeTold(3, 0), -2);
        x.fill(0, 10);
        due("while it is SIPHONING", x.pipeTold(1, 4), 1);
        x.shut(1, true);
        due("SHUT, it does not run", x.pipeTold(1, 4), 0);
        due("pipeTold(1, 3)", x.pipeTold(1, 3), 0);
    }

    private static void count() {
        promise = 20;
        HeronsBench x = new HeronsBench();
        x.vessel(2, 1);
        x.vessel(0, 5);
        x.pipe(-1, 0, 20);
        x.pipe(-1, 1, 1);
        x.pipe(1, -1, 1);
        due("count(0)", x.count(0), 2);
        due("count(1)", x.count(1), 3);
        due("count(2)", x.count(2), 0);
        due("count(3)", x.count(3), 0);
        due("count(-1)", x.count(-1), -1);
        due("count(4)", x.count(4), -1);
        for (int until = 1; until <= 30; until++) {
            x.go(until);
        }
        due("all that came, kept or not", x.count(2), 600);
        x.act(0, 3, 5);
        due("count(3)", x.count(3), 5);
        x.act(1, 0, 5);
        due("count(3)", x.count(3), 1);
        x.act(1, 4, 5);
        due("the latest act that was one", x.count(3), 1);
    }

    private static void event() {
        promise = 21;
        HeronsBench x = new HeronsBench();
        due("event(0, 0)", x.event(0, 0), -1);
        x.vessel(2, 1);
        x.pipe(-1, 0, 20);
        for (int until = 1; until <= 25; until++) {
            x.go(until);
        }
        event(x, 0, 1, 0, 1, 20);
        event(x, 399, 1, 0, 20, 1);
        event(x, 394, 1, 0, 79, 4);
        due("event(400, 0)", x.event(400, 0), -1);
        due("event(-1, 0)", x.event(-1, 0), -1);
        due("event(0, -1)", x.event(0, -1), -1);
        due("event(0, 4)", x.event(0, 4), -1);
        // all five kinds in their order at one moment: by steps first, by numbers in each
        HeronsBench y = new HeronsBench();
        y.vessel(3, 10);
        y.vessel(1, 10);
        y.vessel(2, 10);
        y.vessel(1, 5);
        y.vessel(4, 20);
        y.pipe(-1, 4, 1);
        y.pipe(-1, 0, 1);
        y.own(0, 0);
        y.own(4, 1);
        y.marks(0, 5, 2);
        y.over(0, 1);
        y.over(1, 2);
        y.over(2, 3);
        y.over(3, 4);
        y.tips(2, 4);
        y.fill(0, 45);
        due("count(2)", y.count(2), 5);
        event(y, 0, 1, 2, 0, 1);
        event(y, 1, 2, 1, 0, 1);
        event(y, 2, 2, 3, 0, 1);
        event(y, 3, 4, 0, 0, 1);
        event(y, 4, 4, 4, 0, 1);
        // emptied by PIPES, the SIPHON ends and the FLOAT opens
        y.pipe(0, -1, 1);
        y.pipe(1, -1, 2);
        due("go(8)", y.go(8), 2);
        event(y, 5, 3, 1, 5, 1);
        event(y, 6, 5, 0, 8, 1);
    }

    private static void sum() {
        promise = 22;
        HeronsBench x = new HeronsBench();
        x.vessel(1, 9);
        x.pipe(-1, 0, 3);
        x.pipe(0, -1, 5);
        x.own(0, 1);
        x.marks(0, 2, 0);
        x.go(1);
        fraction("spring", x.sum(0), x.sum(1), 3, 1);
        fraction("drain", x.sum(3), x.sum(4), 5, 3);
        fraction("inside", x.sum(5), x.sum(6), 4, 3);
        due("sum(2)", x.sum(2), 0);
        due("sum(-1)", x.sum(-1), -1);
        due("sum(7)", x.sum(7), -1);
        x.fill(0, 12);
        due("sum(2)", x.sum(2), 12);
        fraction("spring", x.sum(0), x.sum(1), 3, 1);
        fraction("drain", x.sum(3), x.sum(4), 6, 1);
        fraction("inside", x.sum(5), x.sum(6), 9, 1);
        // the SPRING gives at REST, too: 14 PIPES of 20 for 10000 units of time
        HeronsBench y = new HeronsBench();
        y.vessel(0, 200);
        for (int p = 0; p < 14; p++) {
            y.pipe(-1, 0, 20);
        }
        due("go(10000)", y.go(10000), 0);
        due("sum(0)", y.sum(0), 2800000);
        due("sum(3)", y.sum(3), 2799800);
        due("sum(5)", y.sum(5), 200);
        // eight VESSELS one over the other, each with a PIPE of 1 to the DRAIN
        HeronsBench z = new HeronsBench();
        for (int v = 0; v < 8; v++) {
            z.vessel(0, 5);
        }
        for (int v = 0; v < 7; v++) {
            z.over(v, v + 1);
        }
        z.pipe(-1, 0, 15);
        for (int v = 0; v < 8; v++) {
            z.pipe(v, -1, 1);
        }
        z.fill(0, 41);
        due("go(100)", z.go(100), 0);
        due("sum(0)", z.sum(0), 1500);
        due("sum(2)", z.sum(2), 41);
        fraction("inside", z.sum(5), z.sum(6), 40, 1);
        fraction("drain", z.sum(3), z.sum(4), 1501, 1);
        due("flood(7)", z.flood(7), 7);
        due("rate(7)", z.rate(7), 0);
    }

    private static void round() {
        promise = 23;
        HeronsBench x = new HeronsBench();
        x.vessel(2, 3);
        x.pipe(-1, 0, 2);
        due("round(-1)", x.round(-1), -1);
        due("round(5)", x.round(5), -1);
        due("round(0)", x.round(0), 1);
        fraction("BEGIN now", x.round(1), x.round(2), 0, 1);
        fraction("SPAN", x.round(3), x.round(4), 3, 2);
        x.go(1);
        fraction("BEGIN behind the first change", x.round(1), x.round(2), 3, 2);
        fraction("SPAN", x.round(3), x.round(4), 3, 2);
        due("nothing is changed", x.count(2), 0);
        fraction("now", x.now(0), x.now(1), 1, 1);
        // a tail ahead of the round: an other VESSEL fills up to its brim first
        x.vessel(0, 4);
        x.pipe(-1, 1, 1);
        due("round(0)", x.round(0), 1);
        fraction("BEGIN", x.round(1), x.round(2), 6, 1);
        fraction("SPAN", x.round(3), x.round(4), 3, 2);
        HeronsBench rest = new HeronsBench();
        rest.vessel(0, 10);
        rest.pipe(0, -1, 3);
        rest.fill(0, 5);
        for (int what = 0; what <= 4; what++) {
            due("REST: round(" + what + ")", rest.round(what), what == 0 ? 0 : -1);
        }
        HeronsBench spent = spending();
        for (int what = 0; what <= 4; what++) {
            due("SPENT: round(" + what + ")", spent.round(what), what == 0 ? -2 : -1);
        }
        // a TIPPER of 1 fills one of 150, or of 151: the round has as many changes
        HeronsBench long1 = twoTippers(150);
        due("150 changes", long1.round(0), 1);
        fraction("BEGIN", long1.round(1), long1.round(2), 0, 1);
        fraction("SPAN", long1.round(3), long1.round(4), 150, 1);
        HeronsBench long2 = twoTippers(151);
        due("151 changes", long2.round(0), -2);
        due("round(3)", long2.round(3), -1);
        // a FLOAT's round, from between two changes on
        HeronsBench y = new HeronsBench();
        y.vessel(3, 10);
        y.pipe(-1, 0, 2);
        y.pipe(0, -1, 1);
        y.own(0, 0);
        y.marks(0, 6, 2);
        y.go(4);
        due("round(0)", y.round(0), 1);
        fraction("BEGIN", y.round(1), y.round(2), 6, 1);
        fraction("SPAN", y.round(3), y.round(4), 8, 1);
        upAndDown(1);
        upAndDown(3);
        // from a SIPHON on that is SIPHONING now
        HeronsBench z = new HeronsBench();
        z.vessel(1, 10);
        z.pipe(-1, 0, 2);
        z.pipe(0, -1, 4);
        z.own(0, 1);
        z.marks(0, 6, 0);
        z.fill(0, 10);
        due("round(0)", z.round(0), 1);
        fraction("BEGIN", z.round(1), z.round(2), 5, 1);
        fraction("SPAN", z.round(3), z.round(4), 6, 1);
    }

    /**
     * A SIPHON or FLOAT that goes from 0 to 6 and back in 6 units of time, and a TIPPER that tips each 4th:
     * from 1 to 5 all LEVELS come again, but on the way down, which is another state.
     */
    private static void upAndDown(int kind) {
        HeronsBench x = new HeronsBench();
        x.vessel(kind, 10);
        x.vessel(2, 4);
        x.pipe(-1, 0, kind == 1 ? 2 : 4);
        x.pipe(0, -1, kind == 1 ? 4 : 2);
        x.own(0, kind == 1 ? 1 : 0);
        x.marks(0, 6, 0);
        x.go(1);
        x.pipe(-1, 1, 1);
        due("round(0)", x.round(0), 1);
        fraction("BEGIN", x.round(1), x.round(2), 1, 1);
        fraction("SPAN", x.round(3), x.round(4), 12, 1);
        x.go(5);
        due("level(0)", x.level(0, 0), 2);
        fraction("BEGIN on the way down", x.round(1), x.round(2), 5, 1);
        fraction("SPAN", x.round(3), x.round(4), 12, 1);
    }

    private static HeronsBench twoTippers(int brim) {
        HeronsBench x = new HeronsBench();
        x.vessel(2, 1);
        x.vessel(2, brim);
        x.tips(0, 1);
        x.pipe(-1, 0, 1);
        return x;
    }

    private static void tune() {
        promise = 24;
        HeronsBench x = new HeronsBench();
        x.vessel(3, 12);
        x.vessel(0, 12);
        x.vessel(4, 12);
        x.pipe(-1, 0, 7);
        x.pipe(-1, 2, 1);
        x.own(0, 0);
        refused(x, "no such PIPE", x.tune(2, 1, 20, 0, 3), 1);
        refused(x, "no such PIPE", x.tune(-1, 1, 20, 0, 3), 1);
        refused(x, "low 0", x.tune(0, 0, 20, 0, 3), 1);
        refused(x, "high 21", x.tune(0, 1, 21, 0, 3), 1);
        refused(x, "no such VESSEL", x.tune(0, 1, 20, 3, 3), 1);
        refused(x, "no such VESSEL", x.tune(0, 1, 20, -1, 3), 1);
        refused(x, "another KIND", x.tune(0, 1, 20, 1, 3), 1);
        refused(x, "not above now", x.tune(0, 1, 20, 0, 0), 1);
        refused(x, "beyond 10000", x.tune(0, 1, 20, 0, 10001), 1);
        done(x, "tune(0, 1, 20, 0, 3)", x.tune(0, 1, 20, 0, 3), 4);
        done(x, "tune(0, 4, 4, 0, 3)", x.tune(0, 4, 4, 0, 3), 4);
        refused(x, "from 5 on", x.tune(0, 5, 20, 0, 3), 3);
        refused(x, "till 3", x.tune(0, 1, 3, 0, 3), 3);
        refused(x, "5 does not divide 12", x.tune(0, 1, 20, 0, 5), 3);
        done(x, "tune(0, 1, 20, 0, 12)", x.tune(0, 1, 20, 0, 12), 1);
        refused(x, "a CLOCK without an OWN", x.tune(1, 1, 20, 2, 12), 3);
        due("nothing is changed", x.pipeTold(0, 2), 7);
        fraction("now", x.now(0), x.now(1), 0, 1);
        due("count(2)", x.count(2), 0);
        x.own(2, 1);
        done(x, "a CLOCK's", x.tune(1, 1, 20, 2, 6), 2);
        due("told(2, 8)", x.told(2, 8), 0);
        x.go(1);
        x.own(2, 0);
        // PIPE 1 alone fills the CLOCK, and the FLOAT with 7 at 1 shuts first at 2 with 5 more
        done(x, "from now on", x.tune(0, 1, 20, 0, 2), 5);
        // first: a SHUT at the moment that is not the first one is none
        HeronsBench y = new HeronsBench();
        y.vessel(3, 10);
        y.pipe(-1, 0, 2);
        y.pipe(0, -1, 1);
        y.own(0, 0);
        y.marks(0, 6, 2);
        done(y, "SHUTS at 6, then at 14", y.tune(0, 2, 2, 0, 6), 2);
        refused(y, "not first", y.tune(0, 2, 2, 0, 14), 3);
        // more than one AMOUNT: the least; here an outlet slows the rise
        y.own(0, 1);
        y.marks(0, 10, 0);
        done(y, "with 6 less 1", y.tune(0, 1, 20, 0, 2), 6);
        // that the AMOUNT is another one is no hand's act: two FLOATS with one OWN do not act now
        HeronsBench w = new HeronsBench();
        w.vessel(3, 4);
        w.vessel(3, 4);
        w.pipe(-1, 0, 1);
        w.own(0, 0);
        w.own(1, 0);
        w.fill(0, 4);
        due("the other one opened it", w.pipeTold(0, 3), 1);
        refused(w, "no change comes", w.tune(0, 1, 5, 0, 1), 3);
        due("count(2)", w.count(2), 2);
        HeronsBench last = new HeronsBench();
        last.vessel(3, 20);
        last.go(9990);
        last.pipe(-1, 0, 1);
        last.own(0, 0);
        done(last, "10000 at most", last.tune(0, 1, 20, 0, 10000), 2);
        HeronsBench timely = tuneMoments(60);
        done(timely, "60 moments", timely.tune(0, 1, 1, 1, 60), 1);
        HeronsBench late = tuneMoments(61);
        refused(late, "61 moments", late.tune(0, 1, 1, 1, 61), 3);
        HeronsBench spent = spending();
        spent.vessel(3, 11);
        spent.over(3, 4);
        spent.pipe(-1, 4, 1);
        spent.own(4, 4);
        refused(spent, "SPENT ahead of it", spent.tune(4, 11, 11, 4, 1), 3);
    }

    /** A TIPPER of 1 pours into a FLOAT at each moment, which shuts at the one asked. */
    private static HeronsBench tuneMoments(int high) {
        HeronsBench x = new HeronsBench();
        x.vessel(2, 1);
        x.vessel(3, 100);
        x.tips(0, 1);
        x.pipe(-1, 0, 1);
        x.own(1, 0);
        x.marks(1, high, 0);
        return x;
    }

    /** One of each KIND, brim 10; the SIPHON has HIGH 7, the floating ones HIGH 6 and LOW 2; the CLOCK counted 3. */
    private static HeronsBench ofEachKind() {
        HeronsBench x = new HeronsBench();
        for (int kind = 0; kind < 5; kind++) {
            x.vessel(kind, 10);
        }
        x.marks(1, 7, 0);
        x.marks(3, 6, 2);
        x.marks(4, 6, 2);
        x.pipe(-1, 0, 1);
        x.own(4, 0);
        x.fill(4, 10);
        x.shut(0, false);
        x.shut(0, false);
        return x;
    }

    private static void act() {
        promise = 25;
        HeronsBench x = ofEachKind();
        refused(x, "act(-1, 0, 1)", x.act(-1, 0, 1), 1);
        refused(x, "act(5, 0, 1)", x.act(5, 0, 1), 1);
        refused(x, "act(0, -1, 1)", x.act(0, -1, 1), 1);
        refused(x, "act(0, 4, 1)", x.act(0, 4, 1), 1);
        // x = 5, by KINDS: fill, turn, count, tell
        int[][] want = {
            {15, 45, 15, 30}, {15, 52, 15, 67}, {30, 90, 15, 75}, {21, 63, 17, 46}, {21, 63 ^ 3, 20, (63 ^ 3) - 20}};
        // a SIPHON tells of 10: turn 60 + 7, count 10 ^ 10
        for (int kind = 0; kind < 5; kind++) {
            for (int act = 0; act < 4; act++) {
                done(x, "act(" + kind + ", " + act + ", 5)", x.act(kind, act, 5), want[kind][act]);
            }
        }
        done(x, "wrapping", x.act(0, 0, Integer.MAX_VALUE), Integer.MIN_VALUE + 9);
        done(x, "wrapping", x.act(0, 1, Integer.MAX_VALUE), (Integer.MIN_VALUE + 9) * 3);
        done(x, "-1 may be an answer", x.act(0, 0, -11), -1);
        done(x, "of numbers below 0", x.act(0, 2, -11), -11 ^ 10);
    }

    private static void trace() {
        promise = 26;
        HeronsBench x = ofEachKind();
        due("trace(0)", x.trace(0), -1);
        int[][][] want = {
            {{10}, {11, 10}, {12}, {13, 11, 10, 12}},
            {{10}, {20, 11, 10}, {12}, {21, 13, 20, 11, 10, 12}},
            {{30, 10}, {11, 30, 10}, {12}, {13, 11, 30, 10, 12}},
            {{41, 10}, {11, 41, 10}, {40, 12}, {13, 11, 41, 10, 40, 12}},
            {{41, 10}, {51, 11, 41, 10}, {50, 40, 12}, {13, 51, 11, 41, 10, 50, 40, 12}}};
        for (int kind = 0; kind < 5; kind++) {
            for (int act = 0; act < 4; act++) {
                x.act(kind, act, 5);
                int[] bodies = want[kind][act];
                due("count(3)", x.count(3), bodies.length);
                for (int i = 0; i < bodies.length; i++) {
                    due("trace(" + i + ") of " + kind + ", " + act, x.trace(i), bodies[i]);
                }
                due("trace(" + bodies.length + ")", x.trace(bodies.length), -1);
                due("trace(-1)", x.trace(-1), -1);
            }
        }
        x.act(0, 9, 5);
        due("a refused act leaves it", x.trace(1), 51);
        due("trace(50)", x.trace(50), -1);
        due("trace(most)", x.trace(Integer.MAX_VALUE), -1);
    }

    private static void forge() {
        promise = 27;
        HeronsBench x = ofEachKind();
        x.vessel(0, 77);
        refused(x, "forge(-1, 0, 0)", x.forge(-1, 0, 0), 1);
        refused(x, "forge(7, 0, 0)", x.forge(7, 0, 0), 1);
        for (int what = 0; what <= 6; what++) {
            refused(x, "n 101", x.forge(what, 101, 0), 1);
            refused(x, "n -101", x.forge(what, -101, 0), 1);
            refused(x, "k 101", x.forge(what, 1, 101), 1);
            refused(x, "k -101", x.forge(what, 1, -101), 1);
        }
        boolean[][] under = {
            {true, false, false, false, false}, {true, true, false, false, false}, {true, false, true, false, false},
            {true, false, false, true, false}, {true, false, false, true, true}};
        for (int v = 0; v < 5; v++) {
            for (int kind = 0; kind < 5; kind++) {
                forgeKind(x, kind, v, under[v][kind]);
                forgeKind(x, kind - 100, v - 96, under[v][kind]);
                forgeKind(x, kind + 95, v + 96, under[v][kind] && v + 96 <= 100);
            }
        }
        refused(x, "VESSEL 6 of 6", x.forge(0, 0, 6), 10);
        refused(x, "VESSEL -1 modulo 8", x.forge(0, 0, -1), 10);
        done(x, "forge(1, 0, 0)", x.forge(1, 0, 0), 0);
        done(x, "forge(1, 100, 0)", x.forge(1, 100, 0), 100);
        refused(x, "forge(1, -1, 0)", x.forge(1, -1, 0), 13);
        done(x, "forge(2, 5, 0)", x.forge(2, 5, 0), 77);
        refused(x, "forge(2, 6, 0)", x.forge(2, 6, 0), 12);
        refused(x, "forge(2, -1, 0)", x.forge(2, -1, 0), 12);
        done(x, "forge(3, 6, 0)", x.forge(3, 6, 0), 127);
        done(x, "forge(3, 2, 4)", x.forge(3, 2, 4), 87);
        done(x, "forge(3, 0, 6)", x.forge(3, 0, 6), 0);
        refused(x, "forge(3, 0, 7)", x.forge(3, 0, 7), 12);
        refused(x, "forge(3, 3, 4)", x.forge(3, 3, 4), 12);
        refused(x, "forge(3, -1, 0)", x.forge(3, -1, 0), 12);
        refused(x, "forge(3, 1, -1)", x.forge(3, 1, -1), 12);
        x.vessel(0, 1);
        refused(x, "7 into a row of 6", x.forge(3, 7, 0), 12);
        done(x, "6 from place 1", x.forge(3, 6, 1), 118);
        for (int v = 0; v < 3; v++) {
            refused(x, "no FLOAT", x.forge(4, 0, v), 14);
        }
        done(x, "a FLOAT", x.forge(4, 0, 3), 10);
        done(x, "a CLOCK", x.forge(4, 0, -4), 10);
        done(x, "none there", x.forge(4, 0, 7), 0);
        done(x, "forge(5, 7, 0)", x.forge(5, 7, 0), 142);
        done(x, "forge(5, -7, 0)", x.forge(5, -7, 0), -142);
        refused(x, "forge(5, 0, 0)", x.forge(5, 0, 0), 15);
        refused(x, "forge(6, 0, 0)", x.forge(6, 0, 0), 10);
        refused(x, "forge(6, -2, 0)", x.forge(6, -2, 0), 10);
        done(x, "forge(6, 1, 0)", x.forge(6, 1, 0), 1);
        done(x, "forge(6, -1, 0)", x.forge(6, -1, 0), 1);
        HeronsBench bare = new HeronsBench();
        refused(bare, "no BRIMS", bare.forge(2, 0, 0), 12);
        done(bare, "none of no BRIMS", bare.forge(3, 0, 0), 0);
    }

    private static void forgeKind(HeronsBench x, int n, int k, boolean fits) {
        String call = "forge(0, " + n + ", " + k + ")";
        if (n >= -100 && n <= 100 && k >= -100 && k <= 100) {
            if (fits) {
                done(x, call, x.forge(0, n, k), Math.floorMod(k, 8));
            } else {
                refused(x, call, x.forge(0, n, k), 11);
            }
        }
    }

    private static void status() {
        promise = 28;
        HeronsBench x = new HeronsBench();
        due("status()", x.status(), 0);
        x.vessel(0, 0);
        due("status()", x.status(), 1);
        // questions leave it as it is
        x.now(9);
        x.next(9);
        x.level(9, 9);
        x.rate(9);
        x.flow(9);
        x.flood(9);
        x.told(9, 9);
        x.pipeTold(9, 9);
        x.count(0);
        x.event(9, 9);
        x.sum(0);
        x.round(0);
        x.trace(9);
        due("status()", x.status(), 1);
        x.go(0);
        due("done", x.status(), 0);
        x.forge(5, 0, 0);
        due("status()", x.status(), 15);
        x.vessel(3, 5);
        due("status()", x.status(), 0);
        x.tips(0, -1);
        due("status()", x.status(), 3);
        x.act(0, 0, 0);
        due("status()", x.status(), 0);
    }
}
