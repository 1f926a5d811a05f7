/** Benches that more than one test begins with. */
final class Benches {
    private Benches() {
    }

    /** One of each KIND with its marks and OWN PIPE, in the midst of its work: VESSELS 0 .. 4, PIPES 0 .. 4, at 9. */
    static HeronsBench workshop() {
        HeronsBench x = new HeronsBench();
        x.vessel(1, 10);
        x.vessel(2, 9);
        x.vessel(3, 8);
        x.vessel(4, 7);
        x.vessel(0, 6);
        x.pipe(-1, 0, 2);
        x.pipe(0, 2, 3);
        x.pipe(2, -1, 1);
        x.pipe(-1, 1, 4);
        x.pipe(3, 4, 1);
        x.own(0, 1);
        x.own(2, 0);
        x.own(3, 3);
        x.marks(0, 7, 0);
        x.marks(2, 5, 1);
        x.marks(3, 6, 2);
        x.tips(1, 3);
        x.over(0, 4);
        x.over(2, 3);
        x.act(3, 3, 11);
        x.go(9);
        return x;
    }

    /** The same with no room left: VESSELS 0 .. 7, the new ones with BRIMS 30, 40, 50, and PIPES 0 .. 13. */
    static HeronsBench crammed() {
        HeronsBench x = workshop();
        x.vessel(0, 30);
        x.vessel(0, 40);
        x.vessel(3, 50);
        for (int p = 5; p < 14; p++) {
            x.pipe(4, -1, 1);
        }
        return x;
    }

    static HeronsBench one(int kind, int brim) {
        HeronsBench x = new HeronsBench();
        x.vessel(kind, brim);
        return x;
    }

    /** As many PIPES as are needed for that much. */
    static void pipes(HeronsBench x, int from, int to, int all) {
        for (int left = all; left > 0; left -= 20) {
            x.pipe(from, to, Math.min(left, 20));
        }
    }

    /** A TIPPER with BRIM 1 that tips each unit of time into another KIND: as many changes as units. */
    static HeronsBench drip(int kind, int brim) {
        HeronsBench x = new HeronsBench();
        x.vessel(2, 1);
        x.vessel(kind, brim);
        x.tips(0, 1);
        x.pipe(-1, 0, 1);
        return x;
    }

    /** The same into a FLOAT that shuts it behind so many changes: all is at REST then. */
    static HeronsBench dripTill(int changes) {
        HeronsBench x = drip(3, 200);
        x.own(1, 0);
        x.marks(1, changes, 0);
        return x;
    }

    /** At 15/2, behind 150 changes of a go: a TIPPER with BRIM 1 that tips each 20th of a unit. */
    static HeronsBench stoppedBetween() {
        HeronsBench x = one(2, 1);
        x.pipe(-1, 0, 20);
        x.go(8);
        return x;
    }

    /**
     * At 1 with a rate of its own behind: VESSELS 2 and 3 hold 1 / first of a unit less and more than whole, till the
     * TIPPER 1 is full, at 1 + 200/103, and drowns both; GRAIN is first * 103 ahead of that, and 103 behind it.
     */
    static HeronsBench drowning(int first) {
        HeronsBench x = new HeronsBench();
        x.vessel(3, 1);
        x.vessel(2, 200);
        x.vessel(0, 5);
        x.vessel(0, 5);
        x.over(2, 3);
        x.tips(1, 2);
        x.fill(2, 5);
        x.pipe(2, 3, 1);
        x.own(0, 0);
        pipes(x, -1, 0, first);
        x.go(1);
        pipes(x, -1, 1, 103);
        return x;
    }

    /** At 1 and at REST: VESSEL 0 of a KIND holds 1/20, as a FLOAT cut PIPE 0 to it off by then. */
    static HeronsBench aTwentieth(int kind, int brim) {
        HeronsBench x = one(kind, brim);
        x.vessel(3, 1);
        x.pipe(-1, 0, 1);
        x.own(1, 0);
        x.pipe(-1, 1, 20);
        x.go(1);
        return x;
    }

    /** Seven VESSELS and 13 PIPES in which nothing is, and one more VESSEL of a KIND with BRIM 6. */
    static HeronsBench withLastVessel(int kind) {
        HeronsBench x = new HeronsBench();
        for (int v = 0; v < 7; v++) {
            x.vessel(0, 5);
        }
        x.vessel(kind, 6);
        for (int p = 0; p < 13; p++) {
            x.pipe(p % 7, -1, 1);
        }
        return x;
    }
}
