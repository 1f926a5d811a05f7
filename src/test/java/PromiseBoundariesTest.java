/** The promises 1 to 28: each boundary that a promise names has a test of its own, on both sides of it. */
public final class PromiseBoundariesTest {
    private static final Due DUE = new Due();

    private PromiseBoundariesTest() {
    }

    public static void main(String[] args) {
        newObject();
        vessel();
        vesselAtFirst();
        marksHigh();
        marksLow();
        marksNone();
        own();
        tips();
        over();
        pipe();
        fill();
        shut();
        amount();
        goBounds();
        goThrough();
        goMoments();
        now();
        next();
        level();
        rateFlowFlood();
        told();
        toldNone();
        pipeTold();
        count();
        event();
        sum();
        roundWhat();
        roundMoments();
        tuneBounds();
        tuneWhen();
        tuneFirst();
        tuneMoments();
        tuneNoHand();
        act();
        trace();
        forgeBounds();
        forgeKinds();
        forgeSizes();
        forgePlaces();
        forgeCopies();
        forgeFloats();
        forgeDivides();
        forgeFails();
        status();
        DUE.end();
    }

    private static void newObject() {
        DUE.sentence("1: No VESSELS, no PIPES, moment 0");
        HeronsBench x = new HeronsBench();
        DUE.is("count(0)", x.count(0), 0);
        DUE.is("count(1)", x.count(1), 0);
        DUE.fraction("now", x.now(0), x.now(1), 0, 1);
        DUE.is("status()", x.status(), 0);
        // each call that needs a VESSEL or a PIPE finds none
        Due.Call[] calls = {
            b -> b.marks(0, 1, 0), b -> b.own(0, 0), b -> b.tips(0, -1), b -> b.over(0, -1), b -> b.pipe(-1, 0, 1),
            b -> b.pipe(0, -1, 1), b -> b.fill(0, 1), b -> b.shut(0, true), b -> b.amount(0, 1),
            b -> b.tune(0, 1, 20, 0, 1), b -> b.act(0, 0, 0), b -> b.go(-1)};
        for (int i = 0; i < calls.length; i++) {
            DUE.refuses(HeronsBench::new, "call " + i + " of a new object", calls[i], 1);
        }
        DUE.refuses(HeronsBench::new, "forge(0, 0, 0)", b -> b.forge(0, 0, 0), 10);
        DUE.refuses(HeronsBench::new, "forge(2, 0, 0)", b -> b.forge(2, 0, 0), 12);
        DUE.does(HeronsBench::new, "forge(3, 0, 0)", b -> b.forge(3, 0, 0), 0);
        DUE.does(HeronsBench::new, "forge(4, 0, 0)", b -> b.forge(4, 0, 0), 0);
        DUE.does(HeronsBench::new, "go(0)", b -> b.go(0), 0);
    }

    private static void vessel() {
        DUE.sentence("2: A VESSEL of a KIND (0 .. 4): its number. STATUS 1, 2");
        DUE.bounds(Benches::workshop, "vessel(.., 9)", (x, n) -> x.vessel(n, 9), 0, 4, n -> 5, 1);
        for (int kind = 0; kind <= 4; kind++) {
            int each = kind;
            DUE.bounds(Benches::workshop, "vessel(" + kind + ", ..)", (x, n) -> x.vessel(each, n), 1, 200, n -> 5, 1);
            DUE.refuses(Benches::crammed, "no room", x -> x.vessel(each, 9), 2);
        }
        Due.Maker seven = () -> {
            HeronsBench x = Benches.workshop();
            x.vessel(0, 1);
            x.vessel(0, 1);
            return x;
        };
        DUE.does(seven, "the last one", x -> x.vessel(4, 200), 7);
    }

    private static void vesselAtFirst() {
        DUE.sentence("2: empty; HIGH is its BRIM, LOW 0 (of KINDS that have them), it TIPS to the DRAIN");
        for (int brim : new int[] {1, 200}) {
            for (int kind = 0; kind <= 4; kind++) {
                HeronsBench x = Benches.one(kind, brim);
                DUE.fraction("level(0)", x.level(0, 0), x.level(0, 1), 0, 1);
                DUE.is("told(0, 0)", x.told(0, 0), kind);
                DUE.is("told(0, 1)", x.told(0, 1), brim);
                DUE.is("HIGH", x.told(0, 2), kind == 0 || kind == 2 ? -1 : brim);
                DUE.is("LOW", x.told(0, 3), kind < 3 ? -1 : 0);
                DUE.is("told(0, 5)", x.told(0, 5), -1);
                x.fill(0, brim);
                DUE.is("EVENTS at the BRIM", x.count(2), kind == 1 || kind == 2 ? 1 : 0);
                DUE.is("a TIPPER's water in the DRAIN", x.sum(3), kind == 2 ? brim : 0);
            }
        }
    }

    private static void marksHigh() {
        DUE.sentence("3: Its HIGH mark (1 .. BRIM)");
        DUE.bounds(Benches::workshop, "a SIPHON's marks(0, .., 0)", (x, n) -> x.marks(0, n, 0), 1, 10, n -> 1, 1);
        DUE.bounds(Benches::workshop, "a FLOAT's marks(2, .., 0)", (x, n) -> x.marks(2, n, 0), 1, 8, n -> 1, 1);
        DUE.bounds(Benches::workshop, "a CLOCK's marks(3, .., 0)", (x, n) -> x.marks(3, n, 0), 1, 7, n -> 1, 1);
        for (int kind : new int[] {1, 3, 4}) {
            HeronsBench x = Benches.one(kind, 200);
            for (int high : new int[] {1, 199, 200}) {
                x.marks(0, high, 0);
                DUE.is("told(0, 2)", x.told(0, 2), high);
            }
            x.marks(0, 201, 0);
            DUE.is("told(0, 2) behind a refused one", x.told(0, 2), 200);
            x.marks(0, 0, 0);
            DUE.is("told(0, 2) behind a refused one", x.told(0, 2), 200);
        }
        DUE.bounds(() -> Benches.one(1, 1), "BRIM 1: marks(0, .., 0)", (x, n) -> x.marks(0, n, 0), 1, 1, n -> 1, 1);
        DUE.outside(Benches::workshop, "no such VESSEL: marks(.., 1, 0)", (x, n) -> x.marks(n, 1, 0), -1, 1);
        DUE.outside(Benches::workshop, "no such VESSEL: marks(.., 1, 0)", (x, n) -> x.marks(n, 1, 0), 5, 1);
        DUE.outside(Benches::crammed, "no such VESSEL: marks(.., 1, 0)", (x, n) -> x.marks(n, 1, 0), 8, 1);
        DUE.inside(Benches::crammed, "the last VESSEL: marks(.., 1, 0)", (x, n) -> x.marks(n, 1, 0), 7, n -> 1);
    }

    private static void marksLow() {
        DUE.sentence("3: and LOW one (0 .. HIGH less 1); a SIPHON's LOW does not matter");
        DUE.bounds(Benches::workshop, "a FLOAT's marks(2, 6, ..)", (x, n) -> x.marks(2, 6, n), 0, 5, n -> 1, 1);
        DUE.bounds(Benches::workshop, "a FLOAT's marks(2, 8, ..)", (x, n) -> x.marks(2, 8, n), 0, 7, n -> 1, 1);
        DUE.bounds(Benches::workshop, "a CLOCK's marks(3, 7, ..)", (x, n) -> x.marks(3, 7, n), 0, 6, n -> 1, 1);
        DUE.bounds(Benches::workshop, "a FLOAT's marks(2, 1, ..)", (x, n) -> x.marks(2, 1, n), 0, 0, n -> 1, 1);
        // the LOW that stood till now is no bound of the new HIGH
        DUE.does(Benches::workshop, "marks(3, 2, 1)", x -> x.marks(3, 2, 1), 1);
        HeronsBench x = Benches.one(3, 200);
        x.marks(0, 200, 199);
        DUE.is("told(0, 3)", x.told(0, 3), 199);
        x.marks(0, 200, 200);
        DUE.is("told(0, 3) behind a refused one", x.told(0, 3), 199);
        x.marks(0, 150, 0);
        DUE.is("told(0, 3)", x.told(0, 3), 0);
        x.marks(0, 100, -1);
        DUE.is("told(0, 2) behind a refused one", x.told(0, 2), 150);
        for (int low : new int[] {Integer.MIN_VALUE, -1, 0, 4, 5, 10, 11, Integer.MAX_VALUE}) {
            DUE.does(Benches::workshop, "a SIPHON's LOW " + low, b -> b.marks(0, 5, low), 1);
            HeronsBench y = Benches.one(1, 10);
            y.marks(0, 5, low);
            DUE.is("told(0, 2)", y.told(0, 2), 5);
            DUE.is("told(0, 3)", y.told(0, 3), -1);
        }
    }

    private static void marksNone() {
        DUE.sentence("3: of one that has no marks neither number does. STATUS 3 (it has none)");
        int[][] marks = {{5, 1}, {0, 0}, {-1, -1}, {201, 0}, {1, 1}, {Integer.MAX_VALUE, Integer.MIN_VALUE}};
        for (int[] each : marks) {
            DUE.refuses(Benches::workshop, "a TIPPER's marks", x -> x.marks(1, each[0], each[1]), 3);
            DUE.refuses(Benches::workshop, "a VESSEL's marks", x -> x.marks(4, each[0], each[1]), 3);
        }
    }

    private static void own() {
        DUE.sentence("4: STATUS 1, 3 (neither SIPHON nor FLOAT; a SIPHON's that does not come from it)");
        DUE.bounds(Benches::workshop, "a FLOAT's own(2, ..)", (x, n) -> x.own(2, n), 0, 4, n -> 1, 1);
        DUE.bounds(Benches::crammed, "a CLOCK's own(3, ..)", (x, n) -> x.own(3, n), 0, 13, n -> 1, 1);
        DUE.bounds(Benches::crammed, "own(.., 1)", (x, n) -> x.own(n, 1), 0, 7, n -> 1, 1);
        for (int pipe = 0; pipe < 5; pipe++) {
            int each = pipe;
            DUE.does(Benches::workshop, "a CLOCK's own(3, " + pipe + ")", x -> x.own(3, each), 1);
            DUE.refuses(Benches::workshop, "a TIPPER's own(1, " + pipe + ")", x -> x.own(1, each), 3);
            DUE.refuses(Benches::workshop, "a VESSEL's own(4, " + pipe + ")", x -> x.own(4, each), 3);
            if (pipe == 1) {
                DUE.does(Benches::workshop, "a SIPHON's own(0, 1)", x -> x.own(0, each), 1);
            } else {
                DUE.refuses(Benches::workshop, "a SIPHON's own(0, " + pipe + ")", x -> x.own(0, each), 3);
            }
        }
        // a PIPE to the SIPHON does not come from it
        DUE.refuses(Benches::workshop, "a PIPE to it", x -> x.own(0, 0), 3);
    }

    private static void tips() {
        DUE.sentence("5: Where a TIPPER TIPS (a VESSEL, -1: the DRAIN). STATUS 1 (also: a VESSEL with no higher number), 3 (no TIPPER)");
        DUE.bounds(Benches::workshop, "tips(1, ..)", (x, n) -> x.tips(1, n), 2, 4, n -> 1, 1);
        DUE.inside(Benches::workshop, "the DRAIN: tips(1, ..)", (x, n) -> x.tips(1, n), -1, n -> 1);
        DUE.outside(Benches::workshop, "tips(1, ..)", (x, n) -> x.tips(1, n), -2, 1);
        DUE.outside(Benches::workshop, "itself: tips(1, ..)", (x, n) -> x.tips(1, n), 1, 1);
        DUE.outside(Benches::workshop, "a lower one: tips(1, ..)", (x, n) -> x.tips(1, n), 0, 1);
        DUE.bounds(Benches::crammed, "tips(1, ..)", (x, n) -> x.tips(1, n), 2, 7, n -> 1, 1);
        for (int v : new int[] {0, 2, 3, 4}) {
            DUE.refuses(Benches::workshop, "no TIPPER: tips(" + v + ", -1)", x -> x.tips(v, -1), 3);
        }
        for (int v : new int[] {-2, -1, 5, Integer.MIN_VALUE, Integer.MAX_VALUE}) {
            DUE.refuses(Benches::workshop, "no such: tips(" + v + ", -1)", x -> x.tips(v, -1), 1);
        }
        // the last VESSEL can TIP to the DRAIN alone
        DUE.bounds(() -> Benches.one(2, 5), "tips(0, ..)", (x, n) -> x.tips(0, n), -1, -1, n -> 1, 1);
    }

    private static void over() {
        DUE.sentence("6: Where its OVER goes (a VESSEL, -1: the DRAIN). STATUS 1 (also: a VESSEL with no higher number)");
        for (int v = 0; v <= 3; v++) {
            int each = v;
            String call = "over(" + v + ", ..)";
            DUE.bounds(Benches::workshop, call, (x, n) -> x.over(each, n), v + 1, 4, n -> 1, 1);
            DUE.inside(Benches::workshop, call, (x, n) -> x.over(each, n), -1, n -> 1);
            DUE.outside(Benches::workshop, call, (x, n) -> x.over(each, n), -2, 1);
        }
        DUE.bounds(Benches::workshop, "over(4, ..)", (x, n) -> x.over(4, n), -1, -1, n -> 1, 1);
        DUE.bounds(Benches::workshop, "over(.., -1)", (x, n) -> x.over(n, -1), 0, 4, n -> 1, 1);
        DUE.bounds(Benches::crammed, "over(.., -1)", (x, n) -> x.over(n, -1), 0, 7, n -> 1, 1);
        DUE.bounds(Benches::crammed, "over(6, ..)", (x, n) -> x.over(6, n), 7, 7, n -> 1, 1);
    }

    private static void pipe() {
        DUE.sentence("7: A PIPE: its number. STATUS 1 (also from a VESSEL to one with no higher number, from the SPRING to the DRAIN), 2");
        DUE.bounds(Benches::workshop, "pipe(0, 4, ..)", (x, n) -> x.pipe(0, 4, n), 1, 20, n -> 5, 1);
        DUE.bounds(Benches::workshop, "pipe(-1, 4, ..)", (x, n) -> x.pipe(-1, 4, n), 1, 20, n -> 5, 1);
        DUE.bounds(Benches::workshop, "pipe(.., 4, 1)", (x, n) -> x.pipe(n, 4, 1), -1, 3, n -> 5, 1);
        DUE.bounds(Benches::workshop, "pipe(.., -1, 1)", (x, n) -> x.pipe(n, -1, 1), 0, 4, n -> 5, 1);
        DUE.bounds(Benches::workshop, "pipe(2, .., 1)", (x, n) -> x.pipe(2, n, 1), 3, 4, n -> 5, 1);
        DUE.bounds(Benches::workshop, "pipe(-1, .., 1)", (x, n) -> x.pipe(-1, n, 1), 0, 4, n -> 5, 1);
        DUE.refuses(Benches::workshop, "from the SPRING to the DRAIN", x -> x.pipe(-1, -1, 1), 1);
        DUE.refuses(Benches::crammed, "no room", x -> x.pipe(-1, 7, 1), 2);
        Due.Maker thirteen = () -> {
            HeronsBench x = Benches.workshop();
            for (int p = 5; p < 13; p++) {
                x.pipe(0, -1, 1);
            }
            return x;
        };
        DUE.does(thirteen, "the last one", x -> x.pipe(-1, 0, 20), 13);
        HeronsBench x = Benches.workshop();
        x.pipe(3, -1, 20);
        DUE.is("pipeTold(5, 0)", x.pipeTold(5, 0), 3);
        DUE.is("pipeTold(5, 1)", x.pipeTold(5, 1), -1);
        DUE.is("pipeTold(5, 2)", x.pipeTold(5, 2), 20);
    }

    private static void fill() {
        DUE.sentence("8: Water (1 .. 1000, whole) is POURED to a VESSEL by hand: 1. STATUS 1");
        DUE.bounds(Benches::workshop, "fill(4, ..)", (x, n) -> x.fill(4, n), 1, 1000, n -> 1, 1);
        DUE.bounds(Benches::workshop, "fill(.., 1)", (x, n) -> x.fill(n, 1), 0, 4, n -> 1, 1);
        DUE.bounds(Benches::crammed, "fill(.., 1000)", (x, n) -> x.fill(n, 1000), 0, 7, n -> 1, 1);
        HeronsBench x = Benches.one(0, 200);
        x.fill(0, 1);
        DUE.is("sum(2)", x.sum(2), 1);
        x.fill(0, 1000);
        DUE.is("sum(2)", x.sum(2), 1001);
        x.fill(0, 1001);
        x.fill(0, 0);
        DUE.is("sum(2) behind refused ones", x.sum(2), 1001);
        DUE.is("sum(3)", x.sum(3), 801);
        // whole, also where GRAIN is not 1
        HeronsBench y = Benches.aTwentieth(0, 200);
        y.fill(0, 199);
        DUE.fraction("level(0)", y.level(0, 0), y.level(0, 1), 3981, 20);
        y.fill(0, 1);
        DUE.fraction("level(0)", y.level(0, 0), y.level(0, 1), 200, 1);
    }

    private static void shut() {
        DUE.sentence("9: A PIPE is SHUT (true) or OPEN by hand: 1 if it was otherwise, else 0. STATUS 1");
        Due.Maker plain = () -> {
            HeronsBench x = Benches.one(0, 10);
            for (int p = 0; p < 3; p++) {
                x.pipe(-1, 0, 1);
            }
            return x;
        };
        DUE.bounds(plain, "shut(.., true)", (x, n) -> x.shut(n, true), 0, 2, n -> 1, 1);
        DUE.bounds(plain, "shut(.., false)", (x, n) -> x.shut(n, false), 0, 2, n -> 0, 1);
        DUE.outside(Benches::crammed, "shut(.., true)", (x, n) -> x.shut(n, true), 14, 1);
        DUE.inside(Benches::crammed, "shut(.., true)", (x, n) -> x.shut(n, true), 13, n -> 1);
        HeronsBench x = plain.make();
        DUE.done(x, "OPEN, to be SHUT", x.shut(1, true), 1);
        DUE.done(x, "SHUT, to be SHUT", x.shut(1, true), 0);
        DUE.done(x, "SHUT, to be OPEN", x.shut(1, false), 1);
        DUE.done(x, "OPEN, to be OPEN", x.shut(1, false), 0);
    }

    private static void amount() {
        DUE.sentence("10: A PIPE's AMOUNT: what it was. STATUS 1");
        DUE.bounds(Benches::workshop, "amount(1, ..)", (x, n) -> x.amount(1, n), 1, 20, n -> 3, 1);
        DUE.bounds(Benches::workshop, "amount(.., 7)", (x, n) -> x.amount(n, 7), 0, 4, n -> n == 0 ? 2 : 1, 1);
        DUE.bounds(Benches::crammed, "amount(.., 7)", (x, n) -> x.amount(n, 7), 0, 13, n -> n == 0 ? 2 : 1, 1);
        HeronsBench x = Benches.workshop();
        x.amount(1, 20);
        DUE.is("pipeTold(1, 2)", x.pipeTold(1, 2), 20);
        DUE.done(x, "amount(1, 1)", x.amount(1, 1), 20);
        DUE.is("pipeTold(1, 2)", x.pipeTold(1, 2), 1);
        x.amount(1, 21);
        x.amount(1, 0);
        DUE.is("pipeTold(1, 2) behind refused ones", x.pipeTold(1, 2), 1);
    }

    private static void goBounds() {
        DUE.sentence("11: the moment until (whole, not below now, 10000 at most)");
        Due.Maker still = () -> {
            HeronsBench x = Benches.one(0, 5);
            x.pipe(-1, 0, 1);
            x.go(9);
            return x;
        };
        DUE.bounds(still, "go(..)", (x, n) -> x.go(n), 9, 10000, n -> 0, 1);
        DUE.bounds(HeronsBench::new, "go(..)", (x, n) -> x.go(n), 0, 10000, n -> 0, 1);
        // now is 15/2: 7 is below it, 8 is not
        DUE.outside(Benches::stoppedBetween, "go(..)", (x, n) -> x.go(n), 7, 1);
        DUE.inside(Benches::stoppedBetween, "go(..)", (x, n) -> x.go(n), 8, n -> 10);
        HeronsBench last = new HeronsBench();
        last.go(10000);
        DUE.done(last, "at 10000: go(10000)", last.go(10000), 0);
        DUE.is("at 10000: go(9999)", last.go(9999), -1);
        DUE.fraction("now", last.now(0), last.now(1), 10000, 1);
    }

    private static void goThrough() {
        DUE.sentence("11: All goes on to the moment until, through all EVENTS there: how many EVENTS came");
        HeronsBench x = Benches.one(2, 10);
        x.pipe(-1, 0, 1);
        DUE.done(x, "just ahead of it", x.go(9), 0);
        DUE.is("level(0, 0)", x.level(0, 0), 9);
        DUE.done(x, "at it", x.go(10), 1);
        DUE.is("level(0, 0)", x.level(0, 0), 0);
        DUE.done(x, "not again", x.go(10), 0);
        DUE.fraction("now", x.now(0), x.now(1), 10, 1);
        x.amount(0, 20);
        DUE.done(x, "two, and not the third", x.go(11), 2);
        DUE.fraction("next", x.next(0), x.next(1), 23, 2);
        // a hand's EVENTS are none that came in go
        x.fill(0, 10);
        DUE.is("count(2)", x.count(2), 4);
        DUE.done(x, "go(11)", x.go(11), 0);
        HeronsBench last = Benches.one(2, 10);
        last.go(9990);
        last.pipe(-1, 0, 1);
        DUE.done(last, "an EVENT at 10000", last.go(10000), 1);
        DUE.is("told all the same", last.next(0), 10010);
    }

    private static void goMoments() {
        DUE.sentence("11: STATUS 4 (SPENT; or a change would come behind 150 moments of changes of this call, which stand)");
        DUE.does(() -> Benches.drip(0, 200), "150 moments", x -> x.go(150), 150);
        HeronsBench x = Benches.drip(0, 200);
        DUE.is("a 151st", x.go(151), -1);
        DUE.is("status()", x.status(), 4);
        DUE.fraction("now", x.now(0), x.now(1), 150, 1);
        DUE.is("count(2)", x.count(2), 150);
        DUE.done(x, "of this call: 150 more", x.go(300), 150);
        // behind the 150th nothing changes any more
        DUE.does(() -> Benches.dripTill(150), "150 moments, then REST", b -> b.go(10000), 151);
        HeronsBench y = Benches.dripTill(151);
        DUE.is("151 moments, then REST", y.go(10000), -1);
        DUE.is("status()", y.status(), 4);
        DUE.fraction("now", y.now(0), y.now(1), 150, 1);
        DUE.done(y, "the last one", y.go(10000), 2);
        // moments count, not EVENTS: two TIPPERS tip at each of the 150
        HeronsBench z = Benches.one(2, 1);
        z.vessel(2, 1);
        z.tips(0, 1);
        z.pipe(-1, 0, 1);
        DUE.done(z, "150 moments with 300 EVENTS", z.go(150), 300);
        // a change without EVENTS counts as well: VESSEL 2 is full at 1/2
        HeronsBench w = Benches.drip(0, 200);
        w.vessel(0, 10);
        w.pipe(-1, 2, 20);
        DUE.is("149 and one without EVENTS, then the 150th", w.go(150), -1);
        DUE.is("status()", w.status(), 4);
        DUE.is("count(2)", w.count(2), 149);
        DUE.fraction("now", w.now(0), w.now(1), 149, 1);
    }

    private static void now() {
        DUE.sentence("12: what = 0 the moment above, 1 below the line, in lowest terms; 2 GRAIN. -1: another");
        DUE.asks(Benches::workshop, "now(..)", (x, n) -> x.now(n), 0, 2, -1);
        HeronsBench x = Benches.stoppedBetween();
        DUE.is("now(0)", x.now(0), 15);
        DUE.is("now(1)", x.now(1), 2);
        DUE.is("now(2)", x.now(2), 2);
        HeronsBench last = new HeronsBench();
        last.go(10000);
        DUE.fraction("now", last.now(0), last.now(1), 10000, 1);
        // in lowest terms, though GRAIN is finer
        HeronsBench y = Benches.drowning(97);
        DUE.fraction("now", y.now(0), y.now(1), 1, 1);
        DUE.is("now(2)", y.now(2), 97);
    }

    private static void next() {
        DUE.sentence("13: what = 0 above, 1 below the line, in lowest terms. -1: REST, or another");
        DUE.asks(Benches::workshop, "next(..)", (x, n) -> x.next(n), 0, 1, -1);
        HeronsBench x = Benches.one(0, 10);
        x.pipe(-1, 0, 4);
        DUE.fraction("in lowest terms", x.next(0), x.next(1), 5, 2);
        x.shut(0, true);
        DUE.is("REST: next(0)", x.next(0), -1);
        DUE.is("REST: next(1)", x.next(1), -1);
        x.go(10000);
        x.shut(0, false);
        DUE.fraction("behind 10000", x.next(0), x.next(1), 20005, 2);
    }

    private static void level() {
        DUE.sentence("14: The LEVEL of a VESSEL (what 0, 1 as now()). -1: no such");
        DUE.asks(Benches::workshop, "level(.., 0)", (x, n) -> x.level(n, 0), 0, 4, -1);
        DUE.asks(Benches::workshop, "level(.., 1)", (x, n) -> x.level(n, 1), 0, 4, -1);
        DUE.asks(Benches::crammed, "level(.., 0)", (x, n) -> x.level(n, 0), 0, 7, -1);
        DUE.asks(Benches::workshop, "level(0, ..)", (x, n) -> x.level(0, n), 0, 1, -1);
        HeronsBench x = Benches.drowning(97);
        DUE.fraction("empty", x.level(1, 0), x.level(1, 1), 0, 1);
        DUE.fraction("just below 5", x.level(2, 0), x.level(2, 1), 484, 97);
        DUE.fraction("just above 0", x.level(3, 0), x.level(3, 1), 1, 97);
        DUE.fraction("full", x.level(0, 0), x.level(0, 1), 1, 1);
    }

    private static void rateFlowFlood() {
        DUE.sentence("15: Its CHANGE now; -1000000: no such");
        DUE.asks(Benches::workshop, "rate(..)", (x, n) -> x.rate(n), 0, 4, -1000000);
        DUE.asks(Benches::crammed, "rate(..)", (x, n) -> x.rate(n), 0, 7, -1000000);
        HeronsBench x = Benches.one(0, 200);
        for (int p = 0; p < 14; p++) {
            x.pipe(0, -1, 20);
        }
        DUE.is("empty", x.rate(0), 0);
        x.fill(0, 1);
        DUE.is("as fast as it can be", x.rate(0), -280);
        DUE.sentence("16: What a PIPE lets through now. -1: no such");
        DUE.asks(Benches::workshop, "flow(..)", (b, n) -> b.flow(n), 0, 4, -1);
        DUE.asks(Benches::crammed, "flow(..)", (b, n) -> b.flow(n), 0, 13, -1);
        DUE.is("flow(13)", x.flow(13), 20);
        x.shut(13, true);
        DUE.is("flow(13)", x.flow(13), 0);
        DUE.sentence("17: What goes OVER a VESSEL's BRIM now. -1: no such");
        DUE.asks(Benches::workshop, "flood(..)", (b, n) -> b.flood(n), 0, 4, -1);
        DUE.asks(Benches::crammed, "flood(..)", (b, n) -> b.flood(n), 0, 7, -1);
        HeronsBench y = Benches.one(0, 10);
        y.pipe(-1, 0, 2);
        y.go(4);
        DUE.is("at 8 of 10", y.flood(0), 0);
        y.go(5);
        DUE.is("at 10 of 10", y.flood(0), 2);
    }

    private static void told() {
        DUE.sentence("18: Of a VESSEL: 0 KIND .. 8 how often a CLOCK counted. -1: no such, or it has none");
        for (int what = 0; what <= 8; what++) {
            int each = what;
            DUE.asks(Benches::workshop, "told(.., " + what + ")", (x, n) -> x.told(n, each), 0, 4, -1);
        }
        DUE.asks(Benches::crammed, "told(.., 0)", (x, n) -> x.told(n, 0), 0, 7, -1);
        for (int v = 0; v <= 4; v++) {
            int each = v;
            DUE.asks(Benches::workshop, "told(" + v + ", ..)", (x, n) -> x.told(each, n), 0, 8, -1);
        }
        HeronsBench x = Benches.crammed();
        DUE.is("the last one's KIND", x.told(7, 0), 3);
        DUE.is("its BRIM", x.told(7, 1), 50);
    }

    private static void toldNone() {
        DUE.sentence("18: -1: it has none (the DRAIN is -1, too)");
        // SIPHON, TIPPER, FLOAT, CLOCK, VESSEL; SIPHONING and how often it counted are looked at on their own
        int[][] want = {
            {1, 10, 7, -1, 1, -1, 4}, {2, 9, -1, -1, -1, 3, -1}, {3, 8, 5, 1, 0, -1, 3}, {4, 7, 6, 2, 3, -1, -1},
            {0, 6, -1, -1, -1, -1, -1}};
        HeronsBench x = Benches.workshop();
        for (int v = 0; v < want.length; v++) {
            for (int what = 0; what < want[v].length; what++) {
                DUE.is("told(" + v + ", " + what + ")", x.told(v, what), want[v][what]);
            }
            DUE.is("told(" + v + ", 7), of a SIPHON alone", x.told(v, 7), v == 0 ? 0 : -1);
            DUE.is("told(" + v + ", 8), of a CLOCK alone", x.told(v, 8), v == 3 ? 1 : -1);
        }
        HeronsBench y = Benches.one(3, 5);
        DUE.is("no OWN PIPE yet", y.told(0, 4), -1);
        y.pipe(-1, 0, 1);
        DUE.is("nor by making one", y.told(0, 4), -1);
        y.own(0, 0);
        DUE.is("the OWN PIPE 0", y.told(0, 4), 0);
    }

    private static void pipeTold() {
        DUE.sentence("19: Of a PIPE: 0 from, 1 to (-1: SPRING, DRAIN), 2 AMOUNT, 3 whether it is OPEN, 4 whether it RUNS. -2: no such");
        for (int what = 0; what <= 4; what++) {
            int each = what;
            DUE.asks(Benches::workshop, "pipeTold(.., " + what + ")", (x, n) -> x.pipeTold(n, each), 0, 4, -2);
        }
        DUE.asks(Benches::crammed, "pipeTold(.., 0)", (x, n) -> x.pipeTold(n, 0), 0, 13, -2);
        DUE.asks(Benches::workshop, "pipeTold(0, ..)", (x, n) -> x.pipeTold(0, n), 0, 4, -2);
        DUE.asks(Benches::workshop, "pipeTold(2, ..)", (x, n) -> x.pipeTold(2, n), 0, 4, -2);
        HeronsBench x = Benches.workshop();
        DUE.is("the SPRING", x.pipeTold(0, 0), -1);
        DUE.is("the DRAIN", x.pipeTold(2, 1), -1);
    }

    private static void count() {
        DUE.sentence("20: How many: 0 VESSELS, 1 PIPES, 2 EVENTS that came, 3 THE TRACE's bodies. -1: another");
        DUE.asks(Benches::workshop, "count(..)", (x, n) -> x.count(n), 0, 3, -1);
        HeronsBench x = Benches.crammed();
        DUE.is("count(0)", x.count(0), 8);
        DUE.is("count(1)", x.count(1), 14);
        x.vessel(0, 1);
        x.pipe(0, 1, 1);
        DUE.is("count(0) behind a refused one", x.count(0), 8);
        DUE.is("count(1) behind a refused one", x.count(1), 14);
    }

    private static void event() {
        DUE.sentence("21: EVENT i (from 0; the first 400 are kept). -1: no such");
        HeronsBench x = Benches.one(2, 1);
        x.pipe(-1, 0, 4);
        DUE.is("none yet: event(0, 0)", x.event(0, 0), -1);
        for (int until = 1; until <= 99; until++) {
            x.go(until);
        }
        DUE.event(x, 395, 1, 0, 99, 1);
        DUE.is("event(396, 0)", x.event(396, 0), -1);
        x.go(100);
        DUE.event(x, 0, 1, 0, 1, 4);
        DUE.event(x, 399, 1, 0, 100, 1);
        for (int what = 0; what <= 3; what++) {
            DUE.is("event(400, " + what + ")", x.event(400, what), -1);
        }
        x.go(101);
        DUE.is("all are counted", x.count(2), 404);
        DUE.event(x, 399, 1, 0, 100, 1);
        for (int what = 0; what <= 3; what++) {
            DUE.is("event(400, " + what + ")", x.event(400, what), -1);
            DUE.is("event(-1, " + what + ")", x.event(-1, what), -1);
            DUE.is("event(most, " + what + ")", x.event(Integer.MAX_VALUE, what), -1);
            DUE.is("event(least, " + what + ")", x.event(Integer.MIN_VALUE, what), -1);
        }
        DUE.asks(Benches::workshop, "event(0, ..)", (b, n) -> b.event(0, n), 0, 3, -1);
        int came = Benches.workshop().count(2);
        DUE.asks(Benches::workshop, "event(.., 0)", (b, n) -> b.event(n, 0), 0, came - 1, -1);
        // an edge in the midst of a moment: the 400th and the 401st come at once
        HeronsBench y = Benches.one(2, 1);
        y.vessel(2, 1);
        y.vessel(2, 200);
        y.tips(0, 1);
        y.pipe(-1, 0, 2);
        y.fill(2, 200);
        for (int until = 1; until <= 100; until++) {
            y.go(until);
        }
        DUE.is("count(2)", y.count(2), 401);
        DUE.event(y, 399, 1, 0, 100, 1);
        DUE.is("event(400, 0)", y.event(400, 0), -1);
    }

    private static void sum() {
        DUE.sentence("22: What the SPRING gave (0, 1), hands POURED in (2), came to the DRAIN (3, 4), is in VESSELS (5, 6). -1: another");
        DUE.asks(Benches::workshop, "sum(..)", (x, n) -> x.sum(n), 0, 6, -1);
        HeronsBench x = new HeronsBench();
        DUE.fraction("spring", x.sum(0), x.sum(1), 0, 1);
        DUE.is("hands", x.sum(2), 0);
        DUE.fraction("drain", x.sum(3), x.sum(4), 0, 1);
        DUE.fraction("inside", x.sum(5), x.sum(6), 0, 1);
        HeronsBench y = new HeronsBench();
        for (int v = 0; v < 8; v++) {
            y.vessel(0, 200);
            y.fill(v, 200);
        }
        DUE.fraction("as much as can be inside", y.sum(5), y.sum(6), 1600, 1);
        for (int p = 0; p < 14; p++) {
            y.pipe(-1, 7, 20);
        }
        y.go(10000);
        DUE.fraction("as much as the SPRING can give", y.sum(0), y.sum(1), 2800000, 1);
        DUE.fraction("all of it", y.sum(3), y.sum(4), 2800000, 1);
    }

    private static void roundWhat() {
        DUE.sentence("23: what = 0 whether: 1; 0 REST; -2 SPENT, or not found. 1 to 4: -1 if it doesn't. -1: another");
        DUE.asks(Benches::workshop, "round(..)", (x, n) -> x.round(n), 0, 4, -1);
        DUE.asks(() -> Benches.drip(0, 3), "round(..)", (x, n) -> x.round(n), 0, 4, -1);
        roundIs(HeronsBench::new, "nothing there", 0, -1, -1, -1, -1);
        roundIs(() -> Benches.drip(0, 3), "it comes round", 1, 3, 1, 1, 1);
        roundIs(() -> Benches.dripTill(3), "REST", 0, -1, -1, -1, -1);
        roundIs(() -> Benches.drowning(101), "SPENT", -2, -1, -1, -1, -1);
        // with 97 it is not: all is full behind the TIPPER, which tips each 200/103 then
        roundIs(() -> Benches.drowning(97), "not SPENT", 1, 303, 103, 200, 103);
    }

    private static void roundIs(Due.Maker maker, String name, int... want) {
        HeronsBench x = maker.make();
        for (int what = 0; what <= 4; what++) {
            DUE.is(name + ": round(" + what + ")", x.round(what), want[what]);
        }
    }

    private static void roundMoments() {
        DUE.sentence("23: IT COMES ROUND, sought for 150 moments of changes at most");
        roundIs(() -> Benches.drip(2, 149), "149 moments", 1, 0, 1, 149, 1);
        roundIs(() -> Benches.drip(2, 150), "150 moments", 1, 0, 1, 150, 1);
        roundIs(() -> Benches.drip(2, 151), "151 moments", -2, -1, -1, -1, -1);
        // full behind as many changes, it comes round at the next one
        roundIs(() -> Benches.drip(0, 149), "149 and one more", 1, 149, 1, 1, 1);
        roundIs(() -> Benches.drip(0, 150), "150 and one more", -2, -1, -1, -1, -1);
        roundIs(() -> Benches.dripTill(149), "REST behind 149", 0, -1, -1, -1, -1);
        roundIs(() -> Benches.dripTill(150), "REST behind 150", 0, -1, -1, -1, -1);
        roundIs(() -> Benches.dripTill(151), "REST behind 151", -2, -1, -1, -1, -1);
    }

    /** A FLOAT with BRIM 20 that shuts the PIPE that fills it, at 9980. */
    private static HeronsBench late() {
        HeronsBench x = Benches.one(3, 20);
        x.go(9980);
        x.vessel(4, 20);
        x.vessel(0, 20);
        x.pipe(-1, 0, 7);
        x.pipe(-1, 1, 7);
        x.own(0, 0);
        x.own(1, 1);
        return x;
    }

    private static void tuneBounds() {
        DUE.sentence("24: Among AMOUNTS low .. high (1 .. 20) of a PIPE. STATUS 1 (also: the VESSEL has another KIND)");
        DUE.bounds(PromiseBoundariesTest::late, "tune(0, .., 20, 0, 9981)", (x, n) -> x.tune(0, n, 20, 0, 9981), 1, 20, n -> 20, 1);
        DUE.bounds(PromiseBoundariesTest::late, "tune(0, 1, .., 0, 10000)", (x, n) -> x.tune(0, 1, n, 0, 10000), 1, 20, n -> 1, 1);
        DUE.inside(PromiseBoundariesTest::late, "the PIPE: tune(.., 1, 20, 0, 9985)", (x, n) -> x.tune(n, 1, 20, 0, 9985), 0, n -> 4);
        DUE.inside(PromiseBoundariesTest::late, "the PIPE: tune(.., 1, 20, 1, 9985)", (x, n) -> x.tune(n, 1, 20, 1, 9985), 1, n -> 4);
        for (int p : new int[] {-1, 2, Integer.MIN_VALUE, Integer.MAX_VALUE}) {
            DUE.outside(PromiseBoundariesTest::late, "the PIPE: tune(.., 1, 20, 0, 9985)", (x, n) -> x.tune(n, 1, 20, 0, 9985), p, 1);
        }
        DUE.refuses(PromiseBoundariesTest::late, "a VESSEL", x -> x.tune(0, 1, 20, 2, 9985), 1);
        for (int v : new int[] {-1, 3, Integer.MIN_VALUE, Integer.MAX_VALUE}) {
            DUE.outside(PromiseBoundariesTest::late, "the VESSEL: tune(0, 1, 20, .., 9985)", (x, n) -> x.tune(0, 1, 20, n, 9985), v, 1);
        }
        for (int v : new int[] {0, 1, 4}) {
            DUE.refuses(Benches::workshop, "another KIND: VESSEL " + v, x -> x.tune(0, 1, 20, v, 10), 1);
        }
        // the least of 4 .. 4, and none below or above it; none among none
        DUE.does(PromiseBoundariesTest::late, "4 .. 4", x -> x.tune(0, 4, 4, 0, 9985), 4);
        DUE.refuses(PromiseBoundariesTest::late, "1 .. 3", x -> x.tune(0, 1, 3, 0, 9985), 3);
        DUE.refuses(PromiseBoundariesTest::late, "5 .. 20", x -> x.tune(0, 5, 20, 0, 9985), 3);
        DUE.refuses(PromiseBoundariesTest::late, "5 .. 3", x -> x.tune(0, 5, 3, 0, 9985), 3);
    }

    private static void tuneWhen() {
        DUE.sentence("24: the moment when (whole, above now, 10000 at most)");
        DUE.bounds(PromiseBoundariesTest::late, "tune(0, 1, 20, 0, ..)", (x, n) -> x.tune(0, 1, 20, 0, n), 9981, 10000,
                n -> n == 9981 ? 20 : 1, 1);
        // now is 15/2: 7 is not above it, 8 is, and 20 fill 10 till then
        Due.Maker between = () -> {
            HeronsBench x = Benches.stoppedBetween();
            x.vessel(3, 10);
            x.pipe(-1, 1, 1);
            x.own(1, 1);
            return x;
        };
        DUE.outside(between, "tune(1, 1, 20, 1, ..)", (x, n) -> x.tune(1, 1, 20, 1, n), 7, 1);
        DUE.inside(between, "tune(1, 1, 20, 1, ..)", (x, n) -> x.tune(1, 1, 20, 1, n), 8, n -> 20);
    }

    private static void tuneFirst() {
        DUE.sentence("24: the least with which a FLOAT or CLOCK first SHUTS at the moment when; if there is none, -1 with STATUS 3. Nothing is changed");
        Due.Maker clock = () -> {
            HeronsBench x = Benches.one(4, 6);
            x.pipe(-1, 0, 2);
            x.pipe(0, -1, 1);
            x.own(0, 0);
            return x;
        };
        // with 2: SHUTS at 6, opens at 12, SHUTS at 18
        DUE.does(clock, "the first time", x -> x.tune(0, 2, 2, 0, 6), 2);
        DUE.refuses(clock, "a moment ahead of it", x -> x.tune(0, 2, 2, 0, 5), 3);
        DUE.refuses(clock, "when it opens", x -> x.tune(0, 2, 2, 0, 12), 3);
        DUE.refuses(clock, "the second time", x -> x.tune(0, 2, 2, 0, 18), 3);
        DUE.refuses(clock, "never: what comes goes", x -> x.tune(0, 1, 1, 0, 6), 3);
        // with 19 less 1 it comes to 6 at 1/3
        DUE.refuses(clock, "at a moment that is not whole", x -> x.tune(0, 19, 19, 0, 1), 3);
        // the least of several: the TIPPER fills the FLOAT at 3, whatever the PIPE sought gives to another one
        Due.Maker several = () -> {
            HeronsBench x = Benches.one(0, 10);
            x.vessel(2, 6);
            x.vessel(3, 10);
            x.pipe(-1, 0, 1);
            x.pipe(-1, 1, 2);
            x.tips(1, 2);
            x.own(2, 1);
            x.marks(2, 6, 0);
            return x;
        };
        DUE.does(several, "1 .. 20", x -> x.tune(0, 1, 20, 2, 3), 1);
        DUE.does(several, "17 .. 20", x -> x.tune(0, 17, 20, 2, 3), 17);
        // a change without EVENTS is none at which it SHUTS, whatever was sought before
        HeronsBench other = clock.make();
        other.vessel(0, 2);
        other.pipe(-1, 1, 1);
        DUE.done(other, "SHUTS at 3", other.tune(0, 3, 3, 0, 3), 3);
        DUE.is("the other one is full at 2", other.tune(0, 3, 3, 0, 2), -1);
        DUE.is("status()", other.status(), 3);
        // a moment is whole also where GRAIN is not 1
        HeronsBench fine = Benches.aTwentieth(0, 10);
        fine.vessel(3, 4);
        fine.pipe(-1, 2, 1);
        fine.own(2, 2);
        DUE.done(fine, "SHUTS at 3", fine.tune(2, 1, 20, 2, 3), 2);
        // from a SIPHON on that is SIPHONING now
        HeronsBench siphon = Benches.one(1, 6);
        siphon.vessel(3, 6);
        siphon.pipe(0, 1, 1);
        siphon.own(0, 0);
        siphon.own(1, 0);
        siphon.fill(0, 6);
        DUE.done(siphon, "SHUTS at 2", siphon.tune(0, 1, 20, 1, 2), 3);
        HeronsBench x = several.make();
        String before = Asked.all(x);
        x.tune(0, 17, 20, 2, 3);
        DUE.same("nothing is changed", Asked.all(x), before);
    }

    private static void tuneMoments() {
        DUE.sentence("24: with all EVENTS ahead of it sought for 60 moments of changes at most");
        DUE.does(() -> Benches.dripTill(59), "59 moments", x -> x.tune(0, 1, 1, 1, 59), 1);
        DUE.does(() -> Benches.dripTill(60), "60 moments", x -> x.tune(0, 1, 1, 1, 60), 1);
        DUE.refuses(() -> Benches.dripTill(61), "61 moments", x -> x.tune(0, 1, 1, 1, 61), 3);
        // each AMOUNT has 60 moments of its own: 2 come to 60 at 30
        DUE.does(() -> Benches.dripTill(60), "60 moments with 2", x -> x.tune(0, 1, 2, 1, 30), 2);
        DUE.refuses(() -> Benches.dripTill(61), "61 moments with 1 and 2", x -> x.tune(0, 1, 2, 1, 61), 3);
        // SPENT ahead of it
        Due.Maker first97 = () -> drowned(97);
        Due.Maker first101 = () -> drowned(101);
        DUE.does(first97, "GRAIN 9991 on the way", x -> x.tune(x.count(1) - 1, 1, 2, 4, 5), 2);
        DUE.refuses(first101, "GRAIN 10403 on the way", x -> x.tune(x.count(1) - 1, 1, 2, 4, 5), 3);
    }

    /** With a FLOAT that is filled beside it. */
    private static HeronsBench drowned(int first) {
        HeronsBench x = Benches.drowning(first);
        x.vessel(3, 8);
        x.pipe(-1, 4, 1);
        x.own(4, x.count(1) - 1);
        return x;
    }

    private static void tuneNoHand() {
        DUE.sentence("24: from now on without a hand (that the AMOUNT is another one is no hand's act)");
        // two have one OWN: at a hand's moment the full one would SHUT it
        Due.Maker quarrel = () -> {
            HeronsBench x = Benches.one(3, 4);
            x.vessel(3, 9);
            x.pipe(-1, 0, 1);
            x.own(0, 0);
            x.own(1, 0);
            x.fill(0, 4);
            return x;
        };
        DUE.is("OPEN", quarrel.make().pipeTold(0, 3), 1);
        DUE.refuses(quarrel, "no moment comes", x -> x.tune(0, 1, 20, 0, 1), 3);
    }

    private static void act() {
        DUE.sentence("25: An ACT of a VESSEL with x: what it answers (any number). STATUS 1");
        DUE.bounds(Benches::workshop, "act(4, .., 1)", (x, n) -> x.act(4, n, 1), 0, 3, n -> n == 0 ? 7 : 14, 1);
        DUE.bounds(Benches::workshop, "act(.., 2, 0)", (x, n) -> x.act(n, 2, 0), 0, 4, n -> n == 0 ? 10 : 6, 1);
        DUE.bounds(Benches::crammed, "act(.., 2, 0)", (x, n) -> x.act(n, 2, 0), 0, 7, n -> n == 0 ? 10 : 50, 1);
        DUE.does(Benches::workshop, "-1 is a number, too", x -> x.act(4, 0, -7), -1);
        DUE.does(Benches::workshop, "0", x -> x.act(4, 0, -6), 0);
        // a refused one leaves THE TRACE
        HeronsBench x = Benches.workshop();
        x.act(4, 3, 1);
        x.act(4, 4, 1);
        x.act(5, 0, 1);
        DUE.is("count(3)", x.count(3), 4);
        DUE.is("trace(3)", x.trace(3), 12);
    }

    private static void trace() {
        DUE.sentence("26: THE TRACE's i-th body. -1: none such");
        // of a CLOCK's tell: eight
        DUE.asks(Benches::workshop, "trace(..)", (x, n) -> x.trace(n), 0, 7, -1);
        HeronsBench x = Benches.workshop();
        DUE.is("trace(0)", x.trace(0), 13);
        DUE.is("trace(7)", x.trace(7), 12);
        for (int i : new int[] {49, 50, 51}) {
            DUE.is("trace(" + i + ")", x.trace(i), -1);
        }
        DUE.is("of a new one", new HeronsBench().trace(0), -1);
    }

    private static void forgeBounds() {
        DUE.sentence("27: by what (STATUS 1: another; n or k outside -100 .. 100)");
        DUE.bounds(Benches::workshop, "forge(.., 55, 4)", (x, n) -> x.forge(n, 55, 4), 0, 6, n -> n == 0 ? 0 : 1, 1);
        // n by what: the first and the last number that is no STATUS 1, with what they are answered
        int[][] want = {
            {0, 0}, {-13, 100}, {-12, -12}, {-12, -12}, {-14, -14}, {-10, 10}, {-10, -10}};
        for (int what = 0; what <= 6; what++) {
            int each = what;
            String ofN = "forge(" + what + ", .., 4)";
            answered(ofN, (x, n) -> x.forge(each, n, 4), -100, want[what][0], what);
            answered(ofN, (x, n) -> x.forge(each, n, 4), 100, want[what][1], what);
            for (int n : new int[] {-101, 101, Integer.MIN_VALUE, Integer.MAX_VALUE}) {
                DUE.outside(Benches::workshop, ofN, (x, m) -> x.forge(each, m, 4), n, 1);
                DUE.outside(Benches::workshop, "forge(" + what + ", 1, ..)", (x, m) -> x.forge(each, 1, m), n, 1);
                DUE.outside(Benches::workshop, "forge(" + what + ", 0, ..)", (x, m) -> x.forge(each, 0, m), n, 1);
            }
        }
        // k: -100 and 100 modulo 8 are 4; of those that heed no k all is as with another
        for (int k : new int[] {-100, 100}) {
            DUE.inside(Benches::workshop, "forge(0, 0, ..)", (x, m) -> x.forge(0, 0, m), k, m -> 0);
            DUE.inside(Benches::workshop, "forge(1, 3, ..)", (x, m) -> x.forge(1, 3, m), k, m -> 3);
            DUE.inside(Benches::workshop, "forge(2, 1, ..)", (x, m) -> x.forge(2, 1, m), k, m -> 9);
            DUE.outside(Benches::workshop, "forge(3, 0, ..)", (x, m) -> x.forge(3, 0, m), k, 12);
            DUE.outside(Benches::workshop, "forge(4, 0, ..)", (x, m) -> x.forge(4, 0, m), k, 14);
            DUE.inside(Benches::workshop, "forge(5, 3, ..)", (x, m) -> x.forge(5, 3, m), k, m -> 333);
            DUE.inside(Benches::workshop, "forge(6, 1, ..)", (x, m) -> x.forge(6, 1, m), k, m -> 1);
        }
    }

    /** Done with an answer, or, told as a number below 0, refused with a STATUS; 1000 divided by -100 is -10 itself. */
    private static void answered(String call, Due.NumberCall made, int n, int want, int what) {
        if (want < 0 && what != 5) {
            DUE.outside(Benches::workshop, call, made, n, -want);
        } else {
            DUE.inside(Benches::workshop, call, made, n, m -> want);
        }
    }

    private static void forgeKinds() {
        DUE.sentence("27, 0: VESSEL k modulo 8 is taken for one whose KIND is n modulo 5 (also for numbers below 0) or one under that one (also by others between): 10, 11; answers its KIND");
        // by KINDS of VESSELS, what they may be taken for
        String[] fits = {"0", "01", "02", "03", "034"};
        int[] kinds = {1, 2, 3, 4, 0};
        for (int v = 0; v < 5; v++) {
            for (int kind = 0; kind < 5; kind++) {
                boolean fit = fits[kinds[v]].indexOf('0' + kind) >= 0;
                for (int turn = -1; turn <= 1; turn++) {
                    int n = kind + 5 * turn;
                    int k = v + 8 * turn;
                    String call = "forge(0, " + n + ", " + k + ")";
                    if (fit) {
                        DUE.does(Benches::workshop, call, x -> x.forge(0, n, k), kinds[v]);
                    } else {
                        DUE.refuses(Benches::workshop, call, x -> x.forge(0, n, k), 11);
                    }
                }
            }
        }
        for (int k : new int[] {5, 6, 7, -1, -2, -3, 13, 15, -11, -9}) {
            DUE.refuses(Benches::workshop, "no such VESSEL: forge(0, 0, " + k + ")", x -> x.forge(0, 0, k), 10);
        }
        DUE.does(Benches::crammed, "the last VESSEL", x -> x.forge(0, 3, 7), 3);
        DUE.does(Benches::crammed, "the last VESSEL, by -1", x -> x.forge(0, -2, -1), 3);
    }

    private static void forgeSizes() {
        DUE.sentence("27, 1: a row of n numbers is made: 13; answers n");
        DUE.inside(Benches::workshop, "forge(1, .., 0)", (x, n) -> x.forge(1, n, 0), 0, n -> 0);
        DUE.inside(Benches::workshop, "forge(1, .., 0)", (x, n) -> x.forge(1, n, 0), 1, n -> 1);
        DUE.inside(Benches::workshop, "forge(1, .., 0)", (x, n) -> x.forge(1, n, 0), 100, n -> 100);
        DUE.outside(Benches::workshop, "forge(1, .., 0)", (x, n) -> x.forge(1, n, 0), -1, 13);
        DUE.outside(Benches::workshop, "forge(1, .., 0)", (x, n) -> x.forge(1, n, 0), -100, 13);
    }

    private static void forgePlaces() {
        DUE.sentence("27, 2: the BRIMS, a row by VESSELS' numbers: that of place n: 12");
        int[] brims = {10, 9, 8, 7, 6, 30, 40, 50};
        for (int n = 0; n < 8; n++) {
            DUE.inside(Benches::crammed, "forge(2, .., 0)", (x, m) -> x.forge(2, m, 0), n, m -> brims[m]);
        }
        for (int n : new int[] {-100, -1, 8, 9, 100}) {
            DUE.outside(Benches::crammed, "forge(2, .., 0)", (x, m) -> x.forge(2, m, 0), n, 12);
        }
        DUE.inside(Benches::workshop, "forge(2, .., 0)", (x, m) -> x.forge(2, m, 0), 4, m -> 6);
        DUE.outside(Benches::workshop, "forge(2, .., 0)", (x, m) -> x.forge(2, m, 0), 5, 12);
    }

    private static void forgeCopies() {
        DUE.sentence("27, 3: n numbers of that row, from place k on, are copied to a row of 6 from its place 0 on: 12 (n or k below 0, or they do not stand there in both); answers their sum");
        int[][] does = {
            {0, 0, 0}, {1, 0, 10}, {6, 0, 70}, {6, 1, 100}, {6, 2, 141}, {5, 3, 133}, {1, 7, 50}, {0, 7, 0}, {0, 8, 0}};
        for (int[] each : does) {
            DUE.does(Benches::crammed, "forge(3, " + each[0] + ", " + each[1] + ")", x -> x.forge(3, each[0], each[1]), each[2]);
        }
        int[][] refuses = {
            {-1, 0}, {0, -1}, {-1, -1}, {1, -1}, {-1, 1}, {7, 0}, {7, 1}, {8, 0}, {6, 3}, {5, 4}, {2, 7}, {1, 8}, {0, 9},
            {100, 0}, {0, 100}, {100, 100}, {-100, 100}, {100, -100}};
        for (int[] each : refuses) {
            DUE.refuses(Benches::crammed, "forge(3, " + each[0] + ", " + each[1] + ")", x -> x.forge(3, each[0], each[1]), 12);
        }
        DUE.does(Benches::workshop, "all five", x -> x.forge(3, 5, 0), 40);
        DUE.refuses(Benches::workshop, "six of five", x -> x.forge(3, 6, 0), 12);
    }

    private static void forgeFloats() {
        DUE.sentence("27, 4: VESSEL k modulo 8 is put into a row that takes FLOATS and CLOCKS: 14; answers its BRIM (0: there is no such)");
        // SIPHON, TIPPER, FLOAT, CLOCK, VESSEL, and three that are not there
        int[] want = {-14, -14, 8, 7, -14, 0, 0, 0};
        for (int v = 0; v < 8; v++) {
            for (int turn = -1; turn <= 1; turn++) {
                int k = v + 8 * turn;
                int due = want[v];
                if (due < 0) {
                    DUE.refuses(Benches::workshop, "forge(4, 0, " + k + ")", x -> x.forge(4, 0, k), -due);
                } else {
                    DUE.does(Benches::workshop, "forge(4, 0, " + k + ")", x -> x.forge(4, 0, k), due);
                }
            }
        }
    }

    private static void forgeDivides() {
        DUE.sentence("27, 5: 1000 is divided by n: 15");
        int[][] does = {{1, 1000}, {-1, -1000}, {2, 500}, {3, 333}, {-3, -333}, {7, 142}, {-7, -142}, {100, 10}, {-100, -10}};
        for (int[] each : does) {
            DUE.does(Benches::workshop, "forge(5, " + each[0] + ", 0)", x -> x.forge(5, each[0], 0), each[1]);
        }
        DUE.refuses(Benches::workshop, "forge(5, 0, 0)", x -> x.forge(5, 0, 0), 15);
        DUE.refuses(Benches::workshop, "forge(5, 0, 100)", x -> x.forge(5, 0, 100), 15);
    }

    private static void forgeFails() {
        DUE.sentence("27, 6: a failure is thrown: n modulo 2 is 0: none is there: 10; 1: one that is caught at once; answers 1");
        for (int n : new int[] {-100, -2, 0, 2, 100}) {
            DUE.refuses(Benches::workshop, "forge(6, " + n + ", 0)", x -> x.forge(6, n, 0), 10);
        }
        for (int n : new int[] {-99, -3, -1, 1, 3, 99}) {
            DUE.does(Benches::workshop, "forge(6, " + n + ", 0)", x -> x.forge(6, n, 0), 1);
        }
    }

    private static void status() {
        DUE.sentence("28: STATUS of the latest call that is no question");
        Due.Call[] done = {
            x -> x.vessel(0, 1), x -> x.marks(0, 5, 0), x -> x.own(2, 0), x -> x.tips(1, -1), x -> x.over(0, -1),
            x -> x.pipe(-1, 0, 1), x -> x.fill(0, 1), x -> x.shut(0, true), x -> x.amount(0, 1), x -> x.go(9),
            x -> x.act(0, 0, 0), x -> x.forge(1, 1, 1)};
        Due.Call[] refused = {
            x -> x.vessel(0, 0), x -> x.tips(0, -1), x -> x.marks(4, 1, 0), x -> x.forge(0, 0, 7), x -> x.forge(0, 2, 0),
            x -> x.forge(2, 8, 0), x -> x.forge(1, -1, 0), x -> x.forge(4, 0, 0), x -> x.forge(5, 0, 0)};
        int[] statuses = {1, 3, 3, 10, 11, 12, 13, 14, 15};
        for (int i = 0; i < refused.length; i++) {
            HeronsBench x = Benches.workshop();
            refused[i].on(x);
            DUE.is("status() behind refused " + i, x.status(), statuses[i]);
            DUE.is("status() again", x.status(), statuses[i]);
            Asked.all(x);
            DUE.is("status() behind questions", x.status(), statuses[i]);
            for (int j = 0; j < done.length; j++) {
                HeronsBench y = Benches.workshop();
                refused[i].on(y);
                done[j].on(y);
                DUE.is("status() behind refused " + i + " and done " + j, y.status(), 0);
                refused[i].on(y);
                DUE.is("status() behind done " + j + " and refused " + i, y.status(), statuses[i]);
            }
        }
        HeronsBench tuned = late();
        tuned.forge(5, 0, 0);
        tuned.tune(0, 1, 20, 0, 10000);
        DUE.is("status() behind a tune", tuned.status(), 0);
    }
}
