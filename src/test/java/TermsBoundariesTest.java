/** The document's 'Terms': each sentence that names a boundary has a test of its own, on both sides of it. */
public final class TermsBoundariesTest {
    private static final Due DUE = new Due();

    private TermsBoundariesTest() {
    }

    public static void main(String[] args) {
        calls();
        vesselRoom();
        pipeRoom();
        lastOfEachKind();
        down();
        levels();
        openAtFirst();
        siphonsOwn();
        clocks();
        runs();
        ratesAbove0();
        ratesAt0();
        ratesFull();
        ratesOver();
        ratesOfTheSpring();
        nextFullOrEmpty();
        nextLeast();
        nextSiphon();
        nextFloatUp();
        nextFloatDown();
        nextOfFractions();
        rest();
        momentsOfHands();
        tippers();
        tippersOnce();
        siphons();
        floats();
        order();
        eightAtOnce();
        poured();
        grainLeast();
        grainMost();
        grainAheadOfEvents();
        stateAndRound();
        roundFirst();
        actsWrap();
        actsHigherKinds();
        trace();
        statusLowest();
        refusedGo();
        DUE.end();
    }

    private static void calls() {
        DUE.sentence("An object is used for at most 512 calls after it has been made");
        HeronsBench x = Benches.drip(0, 200);
        for (int call = 5; call <= 511; call++) {
            x.go(call - 4);
        }
        DUE.is("the 512th call", x.go(508), 1);
        HeronsBench y = Benches.one(0, 200);
        for (int call = 2; call <= 511; call++) {
            y.fill(0, 1000);
        }
        DUE.is("the 512th call", y.sum(2), 510000);
    }

    private static void vesselRoom() {
        DUE.sentence("VESSELS 0 .. 7 are numbered as they come (8 at most)");
        HeronsBench x = new HeronsBench();
        for (int v = 0; v < 8; v++) {
            DUE.done(x, "vessel(0, 9)", x.vessel(0, 9), v);
        }
        DUE.refuses(Benches::crammed, "a ninth VESSEL", b -> b.vessel(0, 9), 2);
        // the last one works as the others do
        x.pipe(-1, 7, 3);
        x.pipe(7, -1, 1);
        DUE.is("rate(7)", x.rate(7), 2);
        DUE.fraction("next", x.next(0), x.next(1), 9, 2);
        x.go(4);
        DUE.is("level(7, 0)", x.level(7, 0), 8);
        x.go(5);
        DUE.is("flood(7)", x.flood(7), 2);
    }

    private static void pipeRoom() {
        DUE.sentence("PIPES 0 .. 13 are numbered as they come (14 at most)");
        HeronsBench x = Benches.one(3, 100);
        for (int p = 0; p < 14; p++) {
            DUE.done(x, "pipe(-1, 0, 1)", x.pipe(-1, 0, p + 1), p);
        }
        DUE.refuses(Benches::crammed, "a fifteenth PIPE", b -> b.pipe(0, -1, 1), 2);
        DUE.is("flow(13)", x.flow(13), 14);
        DUE.is("rate(0)", x.rate(0), 105);
        DUE.done(x, "own(0, 13)", x.own(0, 13), 1);
        x.go(1);
        DUE.is("the last PIPE is SHUT", x.pipeTold(13, 3), 0);
        DUE.is("the last but one is not", x.pipeTold(12, 3), 1);
        DUE.is("flow(13)", x.flow(13), 0);
    }

    private static void lastOfEachKind() {
        DUE.sentence("VESSELS 0 .. 7 and PIPES 0 .. 13, the last ones of each KIND");
        HeronsBench siphon = Benches.withLastVessel(1);
        siphon.pipe(7, -1, 2);
        siphon.own(7, 13);
        siphon.fill(7, 5);
        DUE.is("REST", siphon.next(0), -1);
        DUE.is("not SIPHONING", siphon.pipeTold(13, 4), 0);
        siphon.fill(7, 1);
        DUE.is("told(7, 7)", siphon.told(7, 7), 1);
        DUE.is("flow(13)", siphon.flow(13), 2);
        DUE.is("go(3)", siphon.go(3), 1);
        DUE.event(siphon, 1, 3, 7, 3, 1);
        HeronsBench tipper = Benches.withLastVessel(2);
        tipper.pipe(-1, 7, 4);
        tipper.fill(7, 1);
        DUE.fraction("BEGIN", tipper.round(1), tipper.round(2), 5, 4);
        DUE.fraction("SPAN", tipper.round(3), tipper.round(4), 3, 2);
        DUE.is("go(2)", tipper.go(2), 1);
        DUE.event(tipper, 0, 1, 7, 5, 4);
        HeronsBench filled = Benches.withLastVessel(0);
        filled.pipe(-1, 7, 4);
        DUE.is("what it takes is a state: REST, no round", filled.round(0), 0);
        HeronsBench clock = Benches.withLastVessel(4);
        clock.pipe(-1, 7, 4);
        clock.own(7, 13);
        clock.fill(7, 3);
        DUE.done(clock, "tune(13, 1, 20, 7, 1)", clock.tune(13, 1, 20, 7, 1), 3);
        DUE.done(clock, "tune(13, 1, 20, 7, 3)", clock.tune(13, 1, 20, 7, 3), 1);
        DUE.is("go(2)", clock.go(2), 1);
        DUE.event(clock, 0, 4, 7, 3, 4);
        DUE.is("told(7, 8)", clock.told(7, 8), 1);
        // a TIPPER's water goes down to the last one: it is full at the third, and that is another state till then
        HeronsBench drip = new HeronsBench();
        drip.vessel(2, 2);
        for (int v = 1; v < 8; v++) {
            drip.vessel(0, 6);
        }
        drip.tips(0, 7);
        drip.pipe(-1, 0, 1);
        DUE.fraction("BEGIN", drip.round(1), drip.round(2), 6, 1);
        DUE.fraction("SPAN", drip.round(3), drip.round(4), 2, 1);
        // the last PIPE's AMOUNT counts in what is sought ahead
        HeronsBench beside = Benches.withLastVessel(3);
        beside.own(7, 0);
        beside.pipe(-1, 7, 3);
        DUE.done(beside, "tune(0, 5, 20, 7, 2)", beside.tune(0, 5, 20, 7, 2), 5);
    }

    private static void down() {
        DUE.sentence("Water runs down: from the SPRING or a VESSEL to a VESSEL with a higher number, or to the DRAIN");
        for (int from = -1; from <= 4; from++) {
            for (int to = -2; to <= 5; to++) {
                int start = from;
                int goal = to;
                String call = "pipe(" + from + ", " + to + ", 3)";
                boolean runsDown = to > from && to <= 4 || to == -1 && from >= 0;
                if (runsDown) {
                    DUE.does(Benches::workshop, call, x -> x.pipe(start, goal, 3), 5);
                } else {
                    DUE.refuses(Benches::workshop, call, x -> x.pipe(start, goal, 3), 1);
                }
            }
        }
    }

    private static void levels() {
        DUE.sentence("A VESSEL has a LEVEL from 0 to its BRIM");
        HeronsBench x = Benches.one(0, 200);
        x.fill(0, 199);
        DUE.is("below the BRIM", x.level(0, 0), 199);
        DUE.is("nothing is lost", x.sum(3), 0);
        x.fill(0, 1);
        DUE.is("at the BRIM", x.level(0, 0), 200);
        DUE.is("nothing is lost", x.sum(3), 0);
        x.fill(0, 1);
        DUE.is("beyond the BRIM", x.level(0, 0), 200);
        DUE.is("one is lost", x.sum(3), 1);
        x.pipe(0, -1, 20);
        x.go(9);
        DUE.is("not yet empty", x.level(0, 0), 20);
        x.go(10);
        DUE.is("empty", x.level(0, 0), 0);
        x.go(12);
        DUE.is("no less", x.level(0, 0), 0);
        DUE.is("no more than was there", x.sum(3), 201);
        x.pipe(-1, 0, 20);
        x.shut(0, true);
        x.go(23);
        DUE.is("full, and not above", x.level(0, 0), 200);
        DUE.is("what went OVER", x.sum(3), 221);
    }

    private static void openAtFirst() {
        DUE.sentence("it is OPEN (at first) or SHUT");
        HeronsBench x = Benches.one(0, 10);
        x.pipe(-1, 0, 1);
        DUE.is("pipeTold(0, 3)", x.pipeTold(0, 3), 1);
        DUE.is("flow(0)", x.flow(0), 1);
        x.shut(0, true);
        DUE.is("pipeTold(0, 3)", x.pipeTold(0, 3), 0);
        DUE.is("flow(0)", x.flow(0), 0);
    }

    private static void siphonsOwn() {
        DUE.sentence("one of the PIPES from it may be its OWN: that one runs while it is SIPHONING alone (not at first)");
        HeronsBench x = Benches.one(1, 10);
        x.pipe(0, -1, 2);
        x.pipe(0, -1, 1);
        x.own(0, 0);
        x.fill(0, 9);
        DUE.is("not at first", x.told(0, 7), 0);
        DUE.is("its OWN", x.flow(0), 0);
        DUE.is("the other one", x.flow(1), 1);
        x.fill(0, 1);
        DUE.is("SIPHONING", x.told(0, 7), 1);
        DUE.is("its OWN", x.flow(0), 2);
        x.go(3);
        DUE.is("still, below HIGH", x.told(0, 7), 1);
        DUE.is("level(0, 0)", x.level(0, 0), 1);
        x.go(4);
        DUE.is("empty", x.told(0, 7), 0);
        DUE.is("pipeTold(0, 4)", x.pipeTold(0, 4), 0);
        // in place of another: the one that was its OWN runs again
        x.own(0, 1);
        DUE.is("pipeTold(0, 4)", x.pipeTold(0, 4), 1);
        DUE.is("pipeTold(1, 4)", x.pipeTold(1, 4), 0);
    }

    private static void clocks() {
        DUE.sentence("CLOCK, under FLOAT: it counts each time that it SHUTS");
        HeronsBench x = Benches.one(4, 4);
        x.pipe(-1, 0, 2);
        x.pipe(0, -1, 1);
        x.own(0, 0);
        DUE.is("at first", x.told(0, 8), 0);
        x.go(3);
        DUE.is("not yet", x.told(0, 8), 0);
        x.go(4);
        DUE.is("it SHUTS", x.told(0, 8), 1);
        x.go(8);
        DUE.is("it opens: no count", x.told(0, 8), 1);
        x.go(12);
        DUE.is("it SHUTS again", x.told(0, 8), 2);
        x.shut(0, false);
        DUE.is("and at a hand's moment", x.told(0, 8), 3);
        x.shut(0, true);
        DUE.is("a hand that shuts it is not counted", x.told(0, 8), 3);
    }

    private static void runs() {
        DUE.sentence("A PIPE RUNS if it is OPEN, and, if it is the OWN one of a SIPHON, while that is SIPHONING");
        HeronsBench x = Benches.one(1, 5);
        x.pipe(0, -1, 1);
        x.own(0, 0);
        DUE.is("OPEN, not SIPHONING", x.pipeTold(0, 4), 0);
        x.fill(0, 5);
        DUE.is("OPEN, SIPHONING", x.pipeTold(0, 4), 1);
        x.shut(0, true);
        DUE.is("SHUT, SIPHONING", x.pipeTold(0, 4), 0);
        DUE.is("flow(0)", x.flow(0), 0);
        // a FLOAT's OWN runs whatever the FLOAT does, if it is OPEN
        HeronsBench y = Benches.one(3, 5);
        y.pipe(0, -1, 1);
        y.own(0, 0);
        DUE.is("a FLOAT's", y.pipeTold(0, 4), 1);
    }

    private static void ratesAbove0() {
        DUE.sentence("The PIPES from it that RUN let their AMOUNTS through if its LEVEL is above 0");
        HeronsBench x = drained(100);
        // at 1/20 of a unit nothing comes in, and all of both runs
        DUE.fraction("level(0)", x.level(0, 0), x.level(0, 1), 1, 20);
        DUE.is("flow of the first", x.flow(x.count(1) - 2), 20);
        DUE.is("flow of the second", x.flow(x.count(1) - 1), 7);
        DUE.is("rate(0)", x.rate(0), -27);
        DUE.fraction("next", x.next(0), x.next(1), 541, 540);
    }

    /** At 1: a VESSEL with 1/20 in it and two PIPES of 20 and 7 from it. */
    private static HeronsBench drained(int brim) {
        HeronsBench x = Benches.aTwentieth(0, brim);
        x.pipe(0, -1, 20);
        x.pipe(0, -1, 7);
        return x;
    }

    private static void ratesAt0() {
        DUE.sentence("if it is 0, each lets as much of its AMOUNT through as is left of IN");
        HeronsBench x = Benches.one(0, 10);
        x.vessel(0, 10);
        x.pipe(-1, 0, 8);
        x.pipe(0, 1, 5);
        x.pipe(0, -1, 3);
        x.pipe(0, 1, 1);
        int[][] want = {{8, 5, 3, 0, 0}, {9, 5, 3, 1, 0}, {10, 5, 3, 1, 1}, {7, 5, 2, 0, 0}, {5, 5, 0, 0, 0}, {4, 4, 0, 0, 0}};
        for (int[] row : want) {
            x.amount(0, row[0]);
            for (int p = 1; p <= 3; p++) {
                DUE.is("IN " + row[0] + ": flow(" + p + ")", x.flow(p), row[p]);
            }
            DUE.is("IN " + row[0] + ": rate(0)", x.rate(0), row[4]);
        }
        x.shut(0, true);
        DUE.is("nothing comes: flow(1)", x.flow(1), 0);
        DUE.is("rate(0)", x.rate(0), 0);
        x.shut(0, false);
        x.shut(1, true);
        DUE.is("the first is SHUT, the next has all: flow(2)", x.flow(2), 3);
        DUE.is("flow(3)", x.flow(3), 1);
    }

    private static void ratesFull() {
        DUE.sentence("if it is full and that is above 0, so much goes OVER, and its CHANGE is 0");
        int[][] want = {{6, 1, 0}, {5, 0, 0}, {4, 0, -1}, {20, 15, 0}, {1, 0, -4}};
        for (int[] row : want) {
            HeronsBench x = Benches.one(0, 10);
            x.pipe(-1, 0, row[0]);
            x.pipe(0, -1, 5);
            x.fill(0, 10);
            DUE.is("IN " + row[0] + ": flood(0)", x.flood(0), row[1]);
            DUE.is("IN " + row[0] + ": rate(0)", x.rate(0), row[2]);
        }
        // at a 20th below the BRIM nothing goes OVER yet
        HeronsBench y = Benches.one(0, 1);
        y.pipe(-1, 0, 19);
        y.vessel(3, 1);
        y.own(1, 0);
        y.pipe(-1, 1, 20);
        y.go(1);
        DUE.fraction("level(0)", y.level(0, 0), y.level(0, 1), 19, 20);
        y.pipe(-1, 0, 3);
        DUE.is("flood(0)", y.flood(0), 0);
        DUE.is("rate(0)", y.rate(0), 3);
        DUE.fraction("next", y.next(0), y.next(1), 61, 60);
        y.go(2);
        DUE.is("flood(0)", y.flood(0), 3);
        DUE.is("rate(0)", y.rate(0), 0);
    }

    private static void ratesOver() {
        DUE.sentence("to where its OVER goes (a VESSEL with a higher number, or the DRAIN, as at first)");
        HeronsBench x = Benches.one(0, 10);
        x.vessel(0, 10);
        x.vessel(0, 10);
        x.pipe(-1, 0, 4);
        x.fill(0, 10);
        DUE.is("told(0, 6)", x.told(0, 6), -1);
        x.go(1);
        DUE.is("the DRAIN, as at first", x.sum(3), 4);
        x.over(0, 2);
        DUE.is("rate(1)", x.rate(1), 0);
        DUE.is("rate(2)", x.rate(2), 4);
        x.over(0, 1);
        DUE.is("rate(1)", x.rate(1), 4);
        x.go(2);
        DUE.is("level(1, 0)", x.level(1, 0), 4);
        DUE.is("sum(3)", x.sum(3), 4);
        // what went OVER is IN to the other: what that one lets through comes of it
        x.pipe(2, -1, 9);
        x.over(0, 2);
        DUE.is("flow(1)", x.flow(1), 4);
    }

    private static void ratesOfTheSpring() {
        DUE.sentence("PIPES from the SPRING that RUN let all their AMOUNT through");
        HeronsBench x = Benches.one(0, 1);
        for (int p = 0; p < 14; p++) {
            x.pipe(-1, 0, 20);
        }
        x.fill(0, 1);
        x.shut(13, true);
        DUE.is("flow(0)", x.flow(0), 20);
        DUE.is("flow(13)", x.flow(13), 0);
        DUE.is("flood(0)", x.flood(0), 260);
        x.shut(13, false);
        DUE.is("flood(0)", x.flood(0), 280);
        x.go(1);
        DUE.is("sum(0)", x.sum(0), 280);
    }

    private static void nextFullOrEmpty() {
        DUE.sentence("a VESSEL, changing as its CHANGE says, is full or empty (and was not)");
        HeronsBench x = Benches.one(0, 10);
        x.pipe(-1, 0, 3);
        DUE.fraction("full", x.next(0), x.next(1), 10, 3);
        x.go(4);
        DUE.is("it was full", x.next(0), -1);
        x.shut(0, true);
        DUE.is("full, and does not change", x.next(0), -1);
        x.pipe(0, -1, 7);
        DUE.fraction("empty", x.next(0), x.next(1), 38, 7);
        x.go(6);
        DUE.is("it was empty", x.next(0), -1);
        x.fill(0, 5);
        x.amount(1, 3);
        x.shut(0, false);
        DUE.is("neither: no CHANGE", x.next(0), -1);
        DUE.is("rate(0)", x.rate(0), 0);
    }

    private static void nextLeast() {
        DUE.sentence("THE NEXT CHANGE is behind the least time, above 0");
        HeronsBench x = Benches.one(0, 10);
        x.vessel(0, 10);
        x.vessel(0, 10);
        x.pipe(-1, 0, 3);
        x.pipe(-1, 1, 4);
        x.pipe(-1, 2, 2);
        DUE.fraction("the second", x.next(0), x.next(1), 5, 2);
        x.go(3);
        DUE.fraction("the first", x.next(0), x.next(1), 10, 3);
        x.fill(1, 1);
        DUE.fraction("full for long is no time above 0", x.next(0), x.next(1), 10, 3);
        x.go(4);
        DUE.fraction("the last", x.next(0), x.next(1), 5, 1);
        DUE.is("go(4)", x.go(4), 0);
        DUE.fraction("now", x.now(0), x.now(1), 4, 1);
    }

    private static void nextSiphon() {
        DUE.sentence("a SIPHON that is not SIPHONING comes up to HIGH (from below)");
        HeronsBench x = Benches.one(1, 10);
        x.marks(0, 6, 0);
        x.pipe(-1, 0, 2);
        DUE.fraction("from below", x.next(0), x.next(1), 3, 1);
        x.fill(0, 5);
        DUE.fraction("from just below", x.next(0), x.next(1), 1, 2);
        x.fill(0, 1);
        DUE.is("at HIGH it begins", x.told(0, 7), 1);
        DUE.fraction("then the BRIM", x.next(0), x.next(1), 2, 1);
        // SIPHONING, it comes up to HIGH again, and that is no change
        HeronsBench y = Benches.one(1, 10);
        y.marks(0, 6, 0);
        y.pipe(0, -1, 2);
        y.fill(0, 6);
        y.go(2);
        y.pipe(-1, 0, 4);
        DUE.is("level(0, 0)", y.level(0, 0), 2);
        DUE.is("told(0, 7)", y.told(0, 7), 1);
        DUE.fraction("the BRIM alone", y.next(0), y.next(1), 6, 1);
        // down to HIGH is none either
        HeronsBench z = Benches.one(1, 10);
        z.fill(0, 9);
        z.pipe(0, -1, 1);
        DUE.fraction("empty", z.next(0), z.next(1), 9, 1);
    }

    private static void nextFloatUp() {
        DUE.sentence("a FLOAT whose OWN PIPE is OPEN comes up to HIGH");
        for (int kind = 3; kind <= 4; kind++) {
            HeronsBench x = Benches.one(kind, 10);
            x.pipe(-1, 0, 2);
            x.pipe(0, -1, 1);
            x.marks(0, 8, 3);
            DUE.fraction("no OWN: the BRIM", x.next(0), x.next(1), 10, 1);
            x.own(0, 1);
            DUE.fraction("HIGH, past LOW", x.next(0), x.next(1), 8, 1);
            x.go(7);
            DUE.fraction("from just below", x.next(0), x.next(1), 8, 1);
            x.shut(1, true);
            DUE.fraction("SHUT: the BRIM", x.next(0), x.next(1), 17, 2);
        }
        // two have one OWN: it is OPEN, though the first is at HIGH, and a time of 0 is none
        HeronsBench y = Benches.one(3, 10);
        y.vessel(3, 10);
        y.pipe(-1, 0, 2);
        y.own(0, 0);
        y.own(1, 0);
        y.marks(0, 4, 0);
        y.fill(0, 4);
        DUE.is("OPEN at HIGH", y.pipeTold(0, 3), 1);
        DUE.fraction("the BRIM", y.next(0), y.next(1), 3, 1);
    }

    private static void nextFloatDown() {
        DUE.sentence("one whose is SHUT down to LOW");
        for (int kind = 3; kind <= 4; kind++) {
            HeronsBench x = Benches.one(kind, 10);
            x.pipe(-1, 0, 1);
            x.pipe(0, -1, 1);
            x.marks(0, 8, 3);
            x.own(0, 0);
            x.fill(0, 10);
            DUE.is("SHUT", x.pipeTold(0, 3), 0);
            DUE.fraction("LOW, past HIGH", x.next(0), x.next(1), 7, 1);
            x.go(6);
            DUE.fraction("from just above", x.next(0), x.next(1), 7, 1);
            x.marks(0, 8, 0);
            DUE.fraction("LOW 0: empty", x.next(0), x.next(1), 10, 1);
            x.own(0, 1);
            x.marks(0, 8, 3);
            DUE.fraction("OPEN: not LOW, but empty", x.next(0), x.next(1), 10, 1);
        }
        HeronsBench y = Benches.one(3, 10);
        y.pipe(0, -1, 1);
        y.marks(0, 8, 3);
        y.fill(0, 7);
        DUE.fraction("no OWN: empty", y.next(0), y.next(1), 7, 1);
    }

    private static void nextOfFractions() {
        DUE.sentence("comes up to HIGH (from below) .. down to LOW, from a LEVEL that is not whole");
        HeronsBench siphon = Benches.aTwentieth(1, 10);
        siphon.marks(0, 6, 0);
        siphon.pipe(-1, 0, 2);
        DUE.fraction("119/40 more", siphon.next(0), siphon.next(1), 159, 40);
        siphon.fill(0, 5);
        DUE.fraction("level(0)", siphon.level(0, 0), siphon.level(0, 1), 101, 20);
        DUE.fraction("19/40 more", siphon.next(0), siphon.next(1), 59, 40);
        siphon.fill(0, 1);
        DUE.event(siphon, 1, 2, 0, 1, 1);
        HeronsBench y = Benches.aTwentieth(3, 10);
        y.pipe(0, -1, 1);
        y.marks(0, 6, 3);
        y.own(0, 2);
        y.fill(0, 5);
        DUE.is("below HIGH", y.count(2), 1);
        y.fill(0, 1);
        DUE.event(y, 1, 4, 0, 1, 1);
        y.own(0, 0);
        y.shut(2, false);
        DUE.fraction("61/20 more", y.next(0), y.next(1), 81, 20);
        y.go(4);
        y.over(0, -1);
        DUE.is("1/20 above LOW", y.count(2), 2);
        y.go(5);
        DUE.event(y, 2, 5, 0, 81, 20);
        HeronsBench z = Benches.aTwentieth(0, 1);
        z.fill(0, 1);
        DUE.fraction("full", z.level(0, 0), z.level(0, 1), 1, 1);
        DUE.fraction("19 by the PIPE, and what was beyond", z.sum(3), z.sum(4), 381, 20);
    }

    private static void rest() {
        DUE.sentence("There may be none: all is at REST then");
        HeronsBench x = Benches.one(0, 10);
        DUE.is("next(0)", x.next(0), -1);
        DUE.is("next(1)", x.next(1), -1);
        x.pipe(-1, 0, 1);
        x.pipe(0, -1, 1);
        DUE.is("what comes goes", x.next(0), -1);
        x.fill(0, 5);
        DUE.is("also in between", x.next(0), -1);
        x.amount(0, 2);
        DUE.is("a change", x.next(0), 5);
        DUE.done(x, "go(10000)", x.go(10000), 0);
        DUE.is("full: REST, though it runs OVER", x.next(0), -1);
        DUE.is("flood(0)", x.flood(0), 1);
    }

    private static void momentsOfHands() {
        DUE.sentence("or a hand has done something (vessel, marks, own, tips, over, pipe, fill, shut, amount that were not refused)");
        Due.Call[] acts = {
            x -> x.vessel(0, 5), x -> x.marks(0, 9, 0), x -> x.own(0, 0), x -> x.tips(2, -1), x -> x.over(2, -1),
            x -> x.pipe(-1, 2, 1), x -> x.fill(2, 1), x -> x.shut(1, false), x -> x.amount(1, 2)};
        for (int i = 0; i < acts.length; i++) {
            HeronsBench x = quarrel();
            int before = x.count(2);
            acts[i].on(x);
            DUE.is("EVENTS of act " + i, x.count(2) - before, 2);
            DUE.event(x, before, 4, 0, 0, 1);
            DUE.event(x, before + 1, 5, 1, 0, 1);
        }
        Due.Call[] others = {
            x -> x.go(0), x -> x.tune(0, 1, 20, 0, 5), x -> x.act(0, 0, 1), x -> x.forge(1, 1, 1), x -> x.round(0),
            x -> x.vessel(5, 5), x -> x.vessel(0, 201), x -> x.marks(0, 11, 0), x -> x.marks(2, 5, 0), x -> x.own(0, 2),
            x -> x.own(2, 0), x -> x.tips(2, 2), x -> x.tips(0, -1), x -> x.over(2, 2), x -> x.pipe(-1, -1, 1),
            x -> x.pipe(-1, 2, 21), x -> x.fill(2, 1001), x -> x.fill(3, 1), x -> x.shut(2, true), x -> x.amount(1, 0)};
        for (int i = 0; i < others.length; i++) {
            HeronsBench x = quarrel();
            int before = x.count(2);
            others[i].on(x);
            DUE.is("EVENTS of no act, " + i, x.count(2) - before, 0);
        }
    }

    /** Two FLOATS with one OWN PIPE, one full and one empty: at each moment one SHUTS it and the other opens it. */
    private static HeronsBench quarrel() {
        HeronsBench x = Benches.one(3, 10);
        x.vessel(3, 10);
        x.vessel(2, 10);
        x.pipe(-1, 2, 1);
        x.pipe(-1, 2, 1);
        x.fill(0, 10);
        x.own(0, 0);
        x.own(1, 0);
        return x;
    }

    private static void tippers() {
        DUE.sentence("By numbers, each TIPPER that is full TIPS (EVENT 1): all of its water is poured to where it TIPS");
        HeronsBench x = Benches.one(2, 10);
        x.vessel(2, 10);
        x.vessel(0, 200);
        x.tips(0, 1);
        x.tips(1, 2);
        x.fill(0, 9);
        DUE.is("not full", x.count(2), 0);
        x.fill(1, 5);
        x.fill(0, 1);
        DUE.is("both TIP, the second filled by the first", x.count(2), 2);
        DUE.event(x, 0, 1, 0, 0, 1);
        DUE.event(x, 1, 1, 1, 0, 1);
        DUE.is("level(0, 0)", x.level(0, 0), 0);
        DUE.is("level(1, 0)", x.level(1, 0), 0);
        DUE.is("what the second had room for", x.level(2, 0), 10);
        DUE.is("the rest went OVER it", x.sum(3), 5);
        x.fill(1, 9);
        DUE.is("not full", x.count(2), 2);
        x.pipe(-1, 1, 1);
        DUE.is("go(1)", x.go(1), 1);
        DUE.event(x, 2, 1, 1, 1, 1);
        DUE.is("level(2, 0)", x.level(2, 0), 20);
    }

    private static void tippersOnce() {
        DUE.sentence("A hand's act is at a moment of its own: a TIPPER that tipped may tip again");
        HeronsBench x = Benches.one(2, 10);
        x.fill(0, 10);
        x.fill(0, 10);
        DUE.is("count(2)", x.count(2), 2);
        x.fill(0, 1000);
        DUE.is("once at one moment", x.count(2), 3);
        DUE.is("beyond the BRIM and tipped", x.sum(3), 1020);
        x.pipe(-1, 0, 5);
        DUE.is("go(2)", x.go(2), 1);
        x.fill(0, 10);
        DUE.is("count(2)", x.count(2), 5);
        DUE.event(x, 3, 1, 0, 2, 1);
        DUE.event(x, 4, 1, 0, 2, 1);
        DUE.is("next(0)", x.next(0), 4);
    }

    private static void siphons() {
        DUE.sentence("each SIPHON that is not SIPHONING and not below HIGH begins (EVENT 2); one that is SIPHONING and empty ends (EVENT 3)");
        HeronsBench x = Benches.one(1, 10);
        x.marks(0, 6, 0);
        x.pipe(0, -1, 3);
        x.own(0, 0);
        x.fill(0, 5);
        DUE.is("below HIGH", x.count(2), 0);
        x.fill(0, 1);
        DUE.event(x, 0, 2, 0, 0, 1);
        x.fill(0, 1);
        DUE.is("SIPHONING, it does not begin", x.count(2), 1);
        x.go(2);
        DUE.is("at 1 it is not empty", x.count(2), 1);
        x.shut(0, false);
        DUE.is("nor at a hand's moment", x.count(2), 1);
        x.go(3);
        DUE.is("count(2)", x.count(2), 2);
        DUE.event(x, 1, 3, 0, 7, 3);
        x.shut(0, false);
        DUE.is("not SIPHONING and empty", x.count(2), 2);
        x.fill(0, 9);
        DUE.event(x, 2, 2, 0, 3, 1);
        // HIGH at the least: a unit begins it; and at the BRIM
        HeronsBench y = Benches.one(1, 200);
        y.fill(0, 199);
        DUE.is("below the BRIM", y.count(2), 0);
        y.fill(0, 1);
        DUE.is("at the BRIM", y.count(2), 1);
        HeronsBench z = Benches.one(1, 200);
        z.marks(0, 1, 0);
        DUE.is("empty", z.count(2), 0);
        z.fill(0, 1);
        DUE.is("HIGH 1", z.count(2), 1);
        DUE.is("not one that began at this moment", z.told(0, 7), 1);
    }

    private static void floats() {
        DUE.sentence("it is OPEN, and the LEVEL not below HIGH: it SHUTS it (EVENT 4); it is SHUT, and the LEVEL not above LOW: it opens it (EVENT 5)");
        for (int kind = 3; kind <= 4; kind++) {
            HeronsBench x = Benches.one(kind, 10);
            x.pipe(-1, 0, 1);
            x.pipe(0, -1, 1);
            x.marks(0, 6, 3);
            x.own(0, 0);
            x.fill(0, 5);
            DUE.is("below HIGH", x.count(2), 0);
            x.fill(0, 1);
            DUE.event(x, 0, 4, 0, 0, 1);
            x.go(2);
            DUE.is("above LOW", x.count(2), 1);
            x.shut(0, true);
            DUE.is("nor at a hand's moment", x.count(2), 1);
            x.go(3);
            DUE.event(x, 1, 5, 0, 3, 1);
            DUE.is("OPEN at LOW", x.pipeTold(0, 3), 1);
            x.fill(0, 7);
            DUE.event(x, 2, 4, 0, 3, 1);
            DUE.is("above HIGH: it SHUTS", x.pipeTold(0, 3), 0);
            x.marks(0, 10, 9);
            DUE.is("above the new LOW", x.count(2), 3);
            x.go(4);
            DUE.event(x, 3, 5, 0, 4, 1);
            x.shut(0, true);
            DUE.event(x, 4, 5, 0, 4, 1);
            DUE.is("count(2)", x.count(2), 5);
        }
        HeronsBench y = Benches.one(3, 10);
        y.pipe(-1, 0, 1);
        y.fill(0, 10);
        DUE.is("without an OWN PIPE", y.count(2), 0);
        // SHUT and below LOW by a hand
        y.own(0, 0);
        y.marks(0, 10, 9);
        y.pipe(0, -1, 20);
        y.own(0, 1);
        DUE.is("both are SHUT", y.pipeTold(0, 3) + y.pipeTold(1, 3), 0);
    }

    private static void order() {
        DUE.sentence("EVENTS are, in this order: 1. By numbers .. 2. By numbers .. 3. By numbers ..");
        HeronsBench x = Benches.one(4, 5);
        x.vessel(1, 5);
        x.vessel(2, 5);
        x.vessel(3, 5);
        x.vessel(1, 5);
        x.vessel(2, 5);
        x.pipe(-1, 0, 1);
        x.pipe(-1, 3, 1);
        x.own(0, 0);
        x.own(3, 1);
        for (int v = 0; v < 5; v++) {
            x.over(v, v + 1);
        }
        x.fill(0, 30);
        int[][] want = {{1, 2}, {1, 5}, {2, 1}, {2, 4}, {4, 0}, {4, 3}};
        DUE.is("count(2)", x.count(2), want.length);
        for (int i = 0; i < want.length; i++) {
            DUE.event(x, i, want[i][0], want[i][1], 0, 1);
        }
    }

    private static void eightAtOnce() {
        DUE.sentence("By numbers, each ..: all eight VESSELS may have their EVENT at one moment");
        HeronsBench x = new HeronsBench();
        for (int v = 0; v < 8; v++) {
            x.vessel(2, 5);
        }
        for (int v = 0; v < 7; v++) {
            x.tips(v, v + 1);
        }
        x.fill(0, 5);
        DUE.is("count(2)", x.count(2), 8);
        for (int v = 0; v < 8; v++) {
            DUE.event(x, v, 1, v, 0, 1);
        }
        DUE.is("sum(3)", x.sum(3), 5);
        HeronsBench y = new HeronsBench();
        for (int v = 0; v < 8; v++) {
            y.vessel(4, 5);
        }
        for (int v = 0; v < 8; v++) {
            y.pipe(-1, v, 5);
            y.own(v, v);
        }
        DUE.is("tune of the last one", y.tune(7, 1, 20, 7, 1), 5);
        DUE.is("go(1)", y.go(1), 8);
        for (int v = 0; v < 8; v++) {
            DUE.event(y, v, 4, v, 1, 1);
            DUE.is("told(" + v + ", 8)", y.told(v, 8), 1);
        }
    }

    private static void poured() {
        DUE.sentence("Water that is POURED to a VESSEL goes into it, what is beyond its BRIM is POURED on to where its OVER goes");
        int[][] want = {{3, 3, 0, 0}, {4, 4, 0, 0}, {5, 4, 1, 0}, {9, 4, 5, 0}, {10, 4, 5, 1}, {1000, 4, 5, 991}};
        for (int[] row : want) {
            HeronsBench x = Benches.one(0, 4);
            x.vessel(0, 5);
            x.over(0, 1);
            x.fill(0, row[0]);
            DUE.is(row[0] + " poured: level(0, 0)", x.level(0, 0), row[1]);
            DUE.is(row[0] + " poured: level(1, 0)", x.level(1, 0), row[2]);
            DUE.is(row[0] + " poured: sum(3)", x.sum(3), row[3]);
        }
        // through all eight
        HeronsBench y = new HeronsBench();
        for (int v = 0; v < 8; v++) {
            y.vessel(0, 100);
        }
        for (int v = 0; v < 7; v++) {
            y.over(v, v + 1);
        }
        y.fill(0, 799);
        DUE.is("level(7, 0)", y.level(7, 0), 99);
        y.fill(0, 2);
        DUE.is("level(7, 0)", y.level(7, 0), 100);
        DUE.is("sum(3)", y.sum(3), 1);
        // a TIPPER's water as a hand's
        HeronsBench z = Benches.one(2, 10);
        z.vessel(0, 4);
        z.vessel(0, 5);
        z.tips(0, 1);
        z.over(1, 2);
        z.fill(0, 10);
        DUE.is("level(1, 0)", z.level(1, 0), 4);
        DUE.is("level(2, 0)", z.level(2, 0), 5);
        DUE.is("sum(3)", z.sum(3), 1);
    }

    private static void grainLeast() {
        DUE.sentence("GRAIN: the least whole number such that the moment, all LEVELS, .. are whole multiples of 1 / GRAIN");
        HeronsBench x = new HeronsBench();
        DUE.is("at first", x.now(2), 1);
        HeronsBench y = Benches.stoppedBetween();
        DUE.fraction("now", y.now(0), y.now(1), 15, 2);
        DUE.is("the moment", y.now(2), 2);
        y.go(8);
        DUE.is("whole again", y.now(2), 1);
        HeronsBench z = drained(100);
        DUE.is("a LEVEL", z.now(2), 20);
        z.shut(z.count(1) - 1, true);
        z.go(2);
        // what came to the DRAIN holds the 20th when the VESSEL is empty
        DUE.is("level(0, 0)", z.level(0, 0), 0);
        DUE.is("sum(4)", z.sum(4), 20);
        DUE.is("what the SPRING gave and came to the DRAIN", z.now(2), 20);
        HeronsBench half = Benches.drowning(2);
        DUE.is("two LEVELS alone are not whole", half.now(2), 2);
        DUE.fraction("level(2)", half.level(2, 0), half.level(2, 1), 9, 2);
        DUE.fraction("level(3)", half.level(3, 0), half.level(3, 1), 1, 2);
        // POURED water fills up the one, and goes on to the other
        HeronsBench w = Benches.drowning(97);
        DUE.is("484/97 and 1/97", w.now(2), 97);
        w.fill(2, 4);
        DUE.is("VESSEL 2 is full, and both are whole", w.now(2), 1);
        DUE.fraction("level(3)", w.level(3, 0), w.level(3, 1), 4, 1);
    }

    private static void grainMost() {
        DUE.sentence("A change behind which GRAIN would be above 10000 is not gone to: SPENT");
        // a FLOAT full at 1/80 slows the other's rise from 128 to 125: at 157/10000
        HeronsBench x = Benches.one(3, 1);
        x.vessel(1, 2);
        x.pipe(-1, 1, 3);
        x.own(0, 0);
        Benches.pipes(x, -1, 0, 80);
        Benches.pipes(x, -1, 1, 125);
        DUE.done(x, "GRAIN 10000", x.go(1), 2);
        DUE.event(x, 1, 2, 1, 157, 10000);
        // full at 1/137, what runs OVER it fills the next by 73: at 210/10001
        HeronsBench y = Benches.one(0, 1);
        y.vessel(0, 1);
        y.over(0, 1);
        Benches.pipes(y, -1, 0, 137);
        Benches.pipes(y, 1, -1, 64);
        DUE.is("GRAIN 10001", y.go(1), -1);
        DUE.is("status()", y.status(), 4);
        DUE.fraction("what was gone till then stands", y.now(0), y.now(1), 1, 137);
        DUE.is("now(2)", y.now(2), 137);
        DUE.fraction("next", y.next(0), y.next(1), 210, 10001);
    }

    private static void grainAheadOfEvents() {
        DUE.sentence("A change behind which, ahead of its EVENTS, GRAIN would be above 10000");
        HeronsBench x = Benches.drowning(97);
        DUE.is("now(2)", x.now(2), 97);
        DUE.fraction("next", x.next(0), x.next(1), 303, 103);
        DUE.done(x, "9991 ahead of it", x.go(3), 1);
        DUE.event(x, 1, 1, 1, 303, 103);
        DUE.is("whole at 3", x.now(2), 1);
        HeronsBench y = Benches.drowning(101);
        DUE.is("now(2)", y.now(2), 101);
        DUE.fraction("next", y.next(0), y.next(1), 303, 103);
        DUE.is("10403 ahead of it, though 103 behind its EVENTS", y.go(3), -1);
        DUE.is("status()", y.status(), 4);
        DUE.fraction("now", y.now(0), y.now(1), 1, 1);
        DUE.done(y, "ahead of it", y.go(2), 0);
        DUE.is("now(2)", y.now(2), 101);
        DUE.is("round(0)", y.round(0), -2);
    }

    private static void stateAndRound() {
        DUE.sentence("THE STATE is all LEVELS, which PIPES are OPEN, which SIPHONS are SIPHONING");
        // how often a CLOCK counted, the moment and the sums are no part of it
        HeronsBench x = Benches.one(4, 4);
        x.pipe(-1, 0, 2);
        x.pipe(0, -1, 1);
        x.own(0, 0);
        DUE.is("a CLOCK's", x.round(0), 1);
        DUE.fraction("BEGIN", x.round(1), x.round(2), 0, 1);
        DUE.fraction("SPAN", x.round(3), x.round(4), 8, 1);
        // one LEVEL more: a VESSEL that takes a unit each time comes round but when it is full
        HeronsBench y = Benches.drip(0, 3);
        DUE.is("round(0)", y.round(0), 1);
        DUE.fraction("BEGIN", y.round(1), y.round(2), 3, 1);
        DUE.fraction("SPAN", y.round(3), y.round(4), 1, 1);
        upAndDown(1);
        upAndDown(3);
    }

    /**
     * A SIPHON or FLOAT that goes from 0 to 6 and back in 6 units of time, and a TIPPER that tips each 4th:
     * from 1 to 5 all LEVELS come again, but the SIPHON is SIPHONING, the FLOAT's PIPE SHUT by then.
     */
    private static void upAndDown(int kind) {
        HeronsBench x = Benches.one(kind, 10);
        x.vessel(2, 4);
        x.pipe(-1, 0, kind == 1 ? 2 : 4);
        x.pipe(0, -1, kind == 1 ? 4 : 2);
        x.own(0, kind == 1 ? 1 : 0);
        x.marks(0, 6, 0);
        x.go(1);
        x.pipe(-1, 1, 1);
        DUE.fraction("level(0)", x.level(0, 0), x.level(0, 1), 2, 1);
        DUE.is("round(0)", x.round(0), 1);
        DUE.fraction("BEGIN", x.round(1), x.round(2), 1, 1);
        DUE.fraction("SPAN", x.round(3), x.round(4), 12, 1);
        x.go(5);
        DUE.fraction("level(0)", x.level(0, 0), x.level(0, 1), 2, 1);
        DUE.fraction("BEGIN on the way down", x.round(1), x.round(2), 5, 1);
        DUE.fraction("SPAN", x.round(3), x.round(4), 12, 1);
    }

    private static void roundFirst() {
        DUE.sentence("what it was behind those of an earlier one, or now: from the first such earlier moment (BEGIN)");
        HeronsBench x = Benches.drip(0, 1);
        DUE.fraction("behind the first change", x.round(1), x.round(2), 1, 1);
        x.fill(1, 1);
        DUE.fraction("now", x.round(1), x.round(2), 0, 1);
        x.amount(0, 4);
        DUE.fraction("SPAN", x.round(3), x.round(4), 1, 4);
        HeronsBench y = Benches.one(2, 3);
        y.go(10000);
        y.pipe(-1, 0, 2);
        y.fill(0, 1);
        DUE.fraction("BEGIN behind 10000", y.round(1), y.round(2), 10001, 1);
        DUE.fraction("SPAN", y.round(3), y.round(4), 3, 2);
    }

    private static void actsWrap() {
        DUE.sentence("ACTS of VESSELS, with a number x (32 bits, wrapping)");
        HeronsBench x = Benches.one(0, 200);
        int most = Integer.MAX_VALUE;
        int least = Integer.MIN_VALUE;
        DUE.done(x, "the last sum that fits", x.act(0, 0, most - 200), most);
        DUE.done(x, "the first that wraps", x.act(0, 0, most - 199), least);
        DUE.done(x, "fill of the most", x.act(0, 0, most), least + 199);
        DUE.done(x, "fill of the least", x.act(0, 0, least), least + 200);
        // 715827882 * 3 = 2^31 - 2, and 715827883 * 3 = 2^31 + 1
        DUE.done(x, "the last product that fits", x.act(0, 1, 715827682), 2147483646);
        DUE.done(x, "the first that wraps", x.act(0, 1, 715827683), -2147483647);
        DUE.done(x, "the last below 0 that fits", x.act(0, 1, -715828082), -2147483646);
        DUE.done(x, "the first below 0 that wraps", x.act(0, 1, -715828083), 2147483647);
        DUE.done(x, "count of the most", x.act(0, 2, most), most - 200);
        DUE.done(x, "count of the least", x.act(0, 2, least), least + 200);
        // turn: (2^31 - 1 + 200) * 3 wraps to -2^31 + 597; less 2^31 - 201 wraps to 798
        DUE.done(x, "tell of the most", x.act(0, 3, most), 798);
        // turn: -2^31 * 3 + 600 wraps to -2^31 + 600; less -2^31 + 200
        DUE.done(x, "tell of the least", x.act(0, 3, least), 400);
    }

    private static void actsHigherKinds() {
        DUE.sentence("the body of the VESSEL's KIND, or, if that has none, of the next KIND above that has one");
        int least = Integer.MIN_VALUE;
        HeronsBench siphon = Benches.one(1, 200);
        siphon.marks(0, 1, 77);
        // of 10: turn 630 + 1, count 10 ^ 200
        DUE.done(siphon, "a SIPHON's tell", siphon.act(0, 3, 5), 631 - 194);
        // x * 2 wraps to 0: turn 600 + 1, count 200
        DUE.done(siphon, "a SIPHON's tell, wrapping", siphon.act(0, 3, least), 401);
        DUE.done(siphon, "a SIPHON's turn: h 1", siphon.act(0, 1, 0), 601);
        siphon.marks(0, 200, 0);
        DUE.done(siphon, "a SIPHON's turn: h 200", siphon.act(0, 1, 0), 800);
        DUE.done(siphon, "a SIPHON's fill is a VESSEL's", siphon.act(0, 0, 0), 200);
        HeronsBench tipper = Benches.one(2, 200);
        // 2^30 - 200 + 200, twice, is 2^31
        DUE.done(tipper, "a TIPPER's fill, wrapping", tipper.act(0, 0, 1073741624), least);
        DUE.done(tipper, "the last that fits", tipper.act(0, 0, 1073741623), 2147483646);
        HeronsBench clock = Benches.one(4, 200);
        clock.marks(0, 200, 199);
        DUE.done(clock, "a CLOCK's count: w 199, k 0", clock.act(0, 2, 0), 399);
        DUE.done(clock, "a CLOCK's fill is a FLOAT's, wrapping", clock.act(0, 0, Integer.MAX_VALUE - 399), least);
        clock.pipe(-1, 0, 1);
        clock.own(0, 0);
        clock.fill(0, 200);
        DUE.done(clock, "k 1", clock.act(0, 2, 0), 400);
        DUE.done(clock, "turn: (0 + 200 + 200) * 3 ^ 1", clock.act(0, 1, 0), 1201);
    }

    private static void trace() {
        DUE.sentence("THE TRACE: the numbers of the bodies that ran in the latest act(); the first 50 are kept");
        HeronsBench x = Benches.workshop();
        // each one's tell: SIPHON, TIPPER, FLOAT, CLOCK, VESSEL
        int[][] bodies = {
            {21, 13, 20, 11, 10, 12}, {13, 11, 30, 10, 12}, {13, 11, 41, 10, 40, 12}, {13, 51, 11, 41, 10, 50, 40, 12},
            {13, 11, 10, 12}};
        for (int v = 0; v < bodies.length; v++) {
            x.act(v, 3, 1);
            DUE.is("count(3)", x.count(3), bodies[v].length);
            for (int i = 0; i < bodies[v].length; i++) {
                DUE.is("trace(" + i + ") of VESSEL " + v, x.trace(i), bodies[v][i]);
            }
            DUE.is("trace(" + bodies[v].length + ")", x.trace(bodies[v].length), -1);
        }
        x.act(4, 0, 1);
        DUE.is("count(3)", x.count(3), 1);
        DUE.is("trace(0)", x.trace(0), 10);
        DUE.is("of the act before nothing is left", x.trace(1), -1);
    }

    private static void statusLowest() {
        DUE.sentence("Where several hold, the lowest");
        DUE.refuses(Benches::crammed, "no such KIND, no room", x -> x.vessel(5, 9), 1);
        DUE.refuses(Benches::crammed, "no such BRIM, no room", x -> x.vessel(0, 201), 1);
        DUE.refuses(Benches::crammed, "no such AMOUNT, no room", x -> x.pipe(0, -1, 21), 1);
        DUE.refuses(Benches::crammed, "not down, no room", x -> x.pipe(1, 0, 1), 1);
        DUE.refuses(Benches::workshop, "a VESSEL's, no such PIPE", x -> x.own(4, 5), 1);
        DUE.refuses(Benches::workshop, "a SIPHON's, no such PIPE", x -> x.own(0, -1), 1);
        DUE.refuses(Benches::workshop, "no TIPPER, not down", x -> x.tips(4, 4), 1);
        DUE.refuses(Benches::workshop, "no TIPPER, no such VESSEL", x -> x.tips(0, 5), 1);
        DUE.refuses(Benches::workshop, "no marks, wrong marks: neither number matters", x -> x.marks(4, 0, -1), 3);
        DUE.refuses(Benches::workshop, "none found, no FLOAT", x -> x.tune(0, 20, 20, 0, 10000), 1);
        DUE.refuses(Benches::workshop, "no such what, divided by 0", x -> x.forge(7, 0, 0), 1);
        DUE.refuses(Benches::workshop, "a size below 0, n outside", x -> x.forge(1, -101, 0), 1);
        DUE.refuses(Benches::workshop, "nothing there, k outside", x -> x.forge(0, 1, 101), 1);
        DUE.refuses(Benches::workshop, "nothing there, of another KIND", x -> x.forge(0, 1, 5), 10);
    }

    private static void refusedGo() {
        DUE.sentence("Such calls answer -1 and change nothing else (go: what was gone till then stands)");
        DUE.refuses(Benches::workshop, "below now", x -> x.go(8), 1);
        DUE.refuses(Benches::workshop, "beyond 10000", x -> x.go(10001), 1);
        DUE.refuses(() -> Benches.drowning(101), "SPENT at once", x -> x.go(3), 4);
        HeronsBench x = Benches.drip(0, 200);
        DUE.is("a change behind 150 moments", x.go(151), -1);
        DUE.is("status()", x.status(), 4);
        DUE.fraction("now", x.now(0), x.now(1), 150, 1);
        DUE.is("count(2)", x.count(2), 150);
        DUE.is("level(1, 0)", x.level(1, 0), 150);
        DUE.is("sum(0)", x.sum(0), 150);
        DUE.event(x, 149, 1, 0, 150, 1);
    }
}
