/**
 * Heron's bench: vessels, pipes, siphons, tippers and floats that fill and tip by exact moments.
 *
 * All amounts of water and the moment are whole numbers of 1 / grain, so nothing is ever rounded.
 */
public final class HeronsBench {
    public static final int NONE = -1;

    private static final int VESSEL_ROOM = 8;
    private static final int PIPE_ROOM = 14;
    private static final int EVENT_ROOM = 400;
    private static final int TRACE_ROOM = 50;
    private static final int COPY_ROOM = 6;

    private static final int BRIM_MOST = 200;
    private static final int AMOUNT_MOST = 20;
    private static final int POUR_MOST = 1000;
    private static final int MOMENT_MOST = 10000;
    private static final int GRAIN_MOST = 10000;
    private static final int FORGE_MOST = 100;

    private static final int GO_MOMENTS = 150;
    private static final int ROUND_MOMENTS = 150;
    private static final int TUNE_MOMENTS = 60;

    private static final int VESSEL = 0;
    private static final int SIPHON = 1;
    private static final int TIPPER = 2;
    private static final int FLOAT = 3;
    private static final int CLOCK = 4;
    private static final int KINDS = 5;
    private static final int[] KIND_ABOVE = {NONE, VESSEL, VESSEL, VESSEL, FLOAT};

    private static final int TIPPED = 1;
    private static final int BEGAN = 2;
    private static final int ENDED = 3;
    private static final int SHUT = 4;
    private static final int OPENED = 5;

    private static final int DONE = 0;
    private static final int OUTSIDE = 1;
    private static final int NO_ROOM = 2;
    private static final int NOT_SO = 3;
    private static final int SPENT = 4;
    private static final int HOST_NOTHING = 10;
    private static final int HOST_KIND = 11;
    private static final int HOST_PLACE = 12;
    private static final int HOST_SIZE = 13;
    private static final int HOST_MISFIT = 14;
    private static final int HOST_DIVISOR = 15;

    private static final int ROUND_FOUND = 1;
    private static final int ROUND_RESTS = 0;
    private static final int ROUND_UNKNOWN = -2;

    private static final int NO_RATE = -1000000;
    private static final int NO_PIPE_TOLD = -2;

    // Euclid's steps for two longs stay below 100.
    private static final int GCD_STEPS = 200;

    private final Plan plan;
    private final Works live;
    // Questions run ahead here, so that the live works stay as they are.
    private final Works trial;
    private final Log log;
    private final Rounds rounds;
    private final ActRun actRun;
    private final VesselActs[] actsByKind;
    private int statusNow;

    public HeronsBench() {
        plan = new Plan();
        live = new Works(plan);
        trial = new Works(plan);
        log = new Log();
        rounds = new Rounds();
        actRun = new ActRun();
        actsByKind = new VesselActs[KINDS];
        actsByKind[VESSEL] = new VesselActs(actRun);
        actsByKind[SIPHON] = new SiphonActs(actRun);
        actsByKind[TIPPER] = new TipperActs(actRun);
        actsByKind[FLOAT] = new FloatActs(actRun);
        actsByKind[CLOCK] = new ClockActs(actRun);
        statusNow = DONE;
    }

    // ---- what hands do ----

    public int vessel(int kind, int brim) {
        if (!within(kind, VESSEL, CLOCK) || !within(brim, 1, BRIM_MOST)) {
            return refused(OUTSIDE);
        }
        int number = plan.addVessel(kind, brim);
        return number == NONE ? refused(NO_ROOM) : handDid(number);
    }

    public int marks(int vessel, int high, int low) {
        if (!plan.hasVessel(vessel)) {
            return refused(OUTSIDE);
        }
        if (!plan.hasHigh(vessel)) {
            return refused(NOT_SO);
        }
        if (!within(high, 1, plan.brims[vessel])) {
            return refused(OUTSIDE);
        }
        if (plan.isFloat(vessel)) {
            if (!within(low, 0, high - 1)) {
                return refused(OUTSIDE);
            }
            plan.lows[vessel] = low;
        }
        plan.highs[vessel] = high;
        return handDid(1);
    }

    public int own(int vessel, int pipe) {
        if (!plan.hasVessel(vessel) || !plan.hasPipe(pipe)) {
            return refused(OUTSIDE);
        }
        boolean fits = plan.isFloat(vessel)
                || plan.kindOf(vessel) == SIPHON && plan.froms[pipe] == vessel;
        if (!fits) {
            return refused(NOT_SO);
        }
        plan.owns[vessel] = pipe;
        return handDid(1);
    }

    public int tips(int vessel, int to) {
        if (!plan.hasVessel(vessel) || !plan.liesBelow(to, vessel)) {
            return refused(OUTSIDE);
        }
        if (plan.kindOf(vessel) != TIPPER) {
            return refused(NOT_SO);
        }
        plan.tipTos[vessel] = to;
        return handDid(1);
    }

    public int over(int vessel, int to) {
        if (!plan.hasVessel(vessel) || !plan.liesBelow(to, vessel)) {
            return refused(OUTSIDE);
        }
        plan.overTos[vessel] = to;
        return handDid(1);
    }

    public int pipe(int from, int to, int amount) {
        boolean fromThere = from == NONE || plan.hasVessel(from);
        boolean springToDrain = from == NONE && to == NONE;
        if (!fromThere || springToDrain || !plan.liesBelow(to, from)
                || !within(amount, 1, AMOUNT_MOST)) {
            return refused(OUTSIDE);
        }
        int number = plan.addPipe(from, to);
        if (number == NONE) {
            return refused(NO_ROOM);
        }
        live.water.amounts[number] = amount;
        live.water.setOpen(number, true);
        return handDid(number);
    }

    public int fill(int vessel, int n) {
        if (!plan.hasVessel(vessel) || !within(n, 1, POUR_MOST)) {
            return refused(OUTSIDE);
        }
        live.water.byHand += n;
        live.pourTo(vessel, n * live.water.grain);
        return handDid(1);
    }

    public int shut(int pipe, boolean is) {
        if (!plan.hasPipe(pipe)) {
            return refused(OUTSIDE);
        }
        boolean wasShut = !live.water.isOpen(pipe);
        live.water.setOpen(pipe, !is);
        return handDid(wasShut != is ? 1 : 0);
    }

    public int amount(int pipe, int n) {
        if (!plan.hasPipe(pipe) || !within(n, 1, AMOUNT_MOST)) {
            return refused(OUTSIDE);
        }
        int was = live.water.amounts[pipe];
        live.water.amounts[pipe] = n;
        return handDid(was);
    }

    public int go(int until) {
        if (until > MOMENT_MOST || live.isBehind(until)) {
            return refused(OUTSIDE);
        }
        int before = log.came;
        for (int moments = 0; moments <= GO_MOMENTS; moments++) {
            live.seekNext();
            if (live.rests() || live.nextIsBehind(until)) {
                live.passTo(until);
                return answered(log.came - before);
            }
            if (moments == GO_MOMENTS || !live.step()) {
                return refused(SPENT);
            }
            log.take(live);
        }
        return refused(SPENT);
    }

    // ---- questions ----

    public int now(int what) {
        switch (what) {
            case 0:
                return (int) above(live.water.moment, live.water.grain);
            case 1:
                return (int) below(live.water.moment, live.water.grain);
            case 2:
                return (int) live.water.grain;
            default:
                return NONE;
        }
    }

    public long next(int what) {
        if (!within(what, 0, 1)) {
            return NONE;
        }
        live.seekNext();
        if (live.rests()) {
            return NONE;
        }
        return part(live.nextMomentAbove(), live.nextMomentBelow(), what);
    }

    public int level(int vessel, int what) {
        if (!plan.hasVessel(vessel) || !within(what, 0, 1)) {
            return NONE;
        }
        return (int) part(live.water.levels[vessel], live.water.grain, what);
    }

    public int rate(int vessel) {
        if (!plan.hasVessel(vessel)) {
            return NO_RATE;
        }
        live.reckonRates();
        return live.changes[vessel];
    }

    public int flow(int pipe) {
        if (!plan.hasPipe(pipe)) {
            return NONE;
        }
        live.reckonRates();
        return live.flows[pipe];
    }

    public int flood(int vessel) {
        if (!plan.hasVessel(vessel)) {
            return NONE;
        }
        live.reckonRates();
        return live.floods[vessel];
    }

    public int told(int vessel, int what) {
        if (!plan.hasVessel(vessel)) {
            return NONE;
        }
        switch (what) {
            case 7:
                return plan.kindOf(vessel) == SIPHON ? asNumber(live.water.isSiphoning(vessel)) : NONE;
            case 8:
                return plan.kindOf(vessel) == CLOCK ? live.water.counted[vessel] : NONE;
            default:
                return plan.toldOf(vessel, what);
        }
    }

    public int pipeTold(int pipe, int what) {
        if (!plan.hasPipe(pipe)) {
            return NO_PIPE_TOLD;
        }
        switch (what) {
            case 0:
                return plan.froms[pipe];
            case 1:
                return plan.tos[pipe];
            case 2:
                return live.water.amounts[pipe];
            case 3:
                return asNumber(live.water.isOpen(pipe));
            case 4:
                return asNumber(live.runs(pipe));
            default:
                return NO_PIPE_TOLD;
        }
    }

    public int count(int what) {
        switch (what) {
            case 0:
                return plan.vessels;
            case 1:
                return plan.pipes;
            case 2:
                return log.came;
            case 3:
                return actRun.traced;
            default:
                return NONE;
        }
    }

    public int event(int i, int what) {
        return log.toldOf(i, what);
    }

    public long sum(int what) {
        Water water = live.water;
        switch (what) {
            case 0:
            case 1:
                return part(water.spring, water.grain, what);
            case 2:
                return water.byHand;
            case 3:
            case 4:
                return part(water.drain, water.grain, what - 3);
            case 5:
            case 6:
                return part(live.inVessels(), water.grain, what - 5);
            default:
                return NONE;
        }
    }

    public int round(int what) {
        if (!within(what, 0, 4)) {
            return NONE;
        }
        trial.water.takeOver(live.water);
        int found = rounds.seek(trial);
        if (what == 0) {
            return found;
        }
        return found == ROUND_FOUND ? rounds.toldOf(what) : NONE;
    }

    public int tune(int pipe, int low, int high, int vessel, int when) {
        if (!plan.hasPipe(pipe) || !within(low, 1, AMOUNT_MOST) || !within(high, 1, AMOUNT_MOST)
                || !plan.isFloat(vessel) || when > MOMENT_MOST || !live.isAhead(when)) {
            return refused(OUTSIDE);
        }
        for (int amount = low; amount <= high; amount++) {
            trial.water.takeOver(live.water);
            trial.water.amounts[pipe] = amount;
            if (firstShutsAt(vessel, when)) {
                return answered(amount);
            }
        }
        return refused(NOT_SO);
    }

    public int act(int vessel, int act, int x) {
        int kind = plan.kindOf(vessel);
        if (!within(kind, VESSEL, CLOCK) || !within(act, 0, 3)) {
            return refused(OUTSIDE);
        }
        VesselActs acts = actsByKind[kind];
        if (acts == null) {
            return refused(OUTSIDE);
        }
        actRun.begin(plan, live.water, vessel);
        switch (act) {
            case 0:
                return answered(acts.fillBody(x));
            case 1:
                return answered(acts.turnBody(x));
            case 2:
                return answered(acts.countBody(x));
            default:
                return answered(acts.tellBody(x));
        }
    }

    public int trace(int i) {
        return i >= 0 && i < actRun.traced && i < TRACE_ROOM ? actRun.bodies[i] : NONE;
    }

    public int forge(int what, int n, int k) {
        if (!within(what, 0, 6) || !within(n, -FORGE_MOST, FORGE_MOST)
                || !within(k, -FORGE_MOST, FORGE_MOST)) {
            return refused(OUTSIDE);
        }
        switch (what) {
            case 0:
                return takenFor(Math.floorMod(k, VESSEL_ROOM), Math.floorMod(n, KINDS));
            case 1:
                return n < 0 ? refused(HOST_SIZE) : answered(n);
            case 2:
                return plan.hasVessel(n) ? answered(plan.brims[n]) : refused(HOST_PLACE);
            case 3:
                return copiedBrims(n, k);
            case 4:
                return putAmongFloats(Math.floorMod(k, VESSEL_ROOM));
            case 5:
                return n == 0 ? refused(HOST_DIVISOR) : answered(1000 / n);
            default:
                return Math.floorMod(n, 2) == 0 ? refused(HOST_NOTHING) : answered(1);
        }
    }

    public int status() {
        return statusNow;
    }

    // ---- helpers of the face ----

    private int refused(int status) {
        statusNow = status;
        return NONE;
    }

    private int answered(int answer) {
        statusNow = DONE;
        return answer;
    }

    private int handDid(int answer) {
        live.settle();
        log.take(live);
        return answered(answer);
    }

    private boolean firstShutsAt(int vessel, int when) {
        for (int moments = 0; moments < TUNE_MOMENTS; moments++) {
            trial.seekNext();
            if (trial.rests() || trial.nextIsBehind(when) || !trial.step()) {
                return false;
            }
            if (trial.hasHappened(SHUT, vessel)) {
                return trial.isAt(when);
            }
        }
        return false;
    }

    private int takenFor(int vessel, int kind) {
        if (!plan.hasVessel(vessel)) {
            return refused(HOST_NOTHING);
        }
        int its = plan.kindOf(vessel);
        return isKindOrUnder(its, kind) ? answered(its) : refused(HOST_KIND);
    }

    private int copiedBrims(int n, int from) {
        if (n < 0 || from < 0 || n > COPY_ROOM || from + n > plan.vessels) {
            return refused(HOST_PLACE);
        }
        int sum = 0;
        for (int i = 0; i < n; i++) {
            sum += plan.brimOf(from + i);
        }
        return answered(sum);
    }

    private int putAmongFloats(int vessel) {
        if (!plan.hasVessel(vessel)) {
            return answered(0);
        }
        return plan.isFloat(vessel) ? answered(plan.brimOf(vessel)) : refused(HOST_MISFIT);
    }

    // ---- numbers ----

    private static boolean within(int n, int least, int most) {
        return n >= least && n <= most;
    }

    private static int asNumber(boolean is) {
        return is ? 1 : 0;
    }

    private static boolean isKindOrUnder(int kind, int wanted) {
        int at = kind;
        for (int i = 0; i < KINDS && within(at, VESSEL, CLOCK); i++) {
            if (at == wanted) {
                return true;
            }
            at = KIND_ABOVE[at];
        }
        return false;
    }

    /** The greatest common divisor of two numbers not below 0; 1 if both are 0, so that it always divides. */
    private static long gcd(long a, long b) {
        long x = a;
        long y = b;
        for (int i = 0; i < GCD_STEPS && y != 0; i++) {
            long rest = x % y;
            x = y;
            y = rest;
        }
        return x == 0 ? 1 : x;
    }

    private static long above(long n, long line) {
        long common = gcd(n, line);
        return common == 0 ? n : n / common;
    }

    private static long below(long n, long line) {
        long common = gcd(n, line);
        return common == 0 ? line : line / common;
    }

    private static long part(long n, long line, int what) {
        return what == 0 ? above(n, line) : below(n, line);
    }

    // ---- the classes inside ----

    /** What hands have built. What changes by itself stands in Water. */
    private static final class Plan {
        int vessels;
        int pipes;
        final int[] kinds = new int[VESSEL_ROOM];
        final int[] brims = new int[VESSEL_ROOM];
        final int[] highs = new int[VESSEL_ROOM];
        final int[] lows = new int[VESSEL_ROOM];
        final int[] owns = new int[VESSEL_ROOM];
        final int[] tipTos = new int[VESSEL_ROOM];
        final int[] overTos = new int[VESSEL_ROOM];
        final int[] froms = new int[PIPE_ROOM];
        final int[] tos = new int[PIPE_ROOM];

        boolean hasVessel(int vessel) {
            return vessel >= 0 && vessel < vessels && vessel < VESSEL_ROOM;
        }

        boolean hasPipe(int pipe) {
            return pipe >= 0 && pipe < pipes && pipe < PIPE_ROOM;
        }

        int kindOf(int vessel) {
            return vessel >= 0 && vessel < vessels && vessel < VESSEL_ROOM ? kinds[vessel] : NONE;
        }

        int brimOf(int vessel) {
            return hasVessel(vessel) ? brims[vessel] : 0;
        }

        boolean isFloat(int vessel) {
            boolean there = vessel >= 0 && vessel < vessels && vessel < VESSEL_ROOM;
            return there && (kinds[vessel] == FLOAT || kinds[vessel] == CLOCK);
        }

        boolean hasHigh(int vessel) {
            return kindOf(vessel) == SIPHON || isFloat(vessel);
        }

        /** The SPRING is NONE, too, and each VESSEL has a higher number than that. */
        boolean liesBelow(int to, int from) {
            return to == NONE || hasVessel(to) && to > from;
        }

        int addVessel(int kind, int brim) {
            int number = vessels;
            if (number >= VESSEL_ROOM) {
                return NONE;
            }
            kinds[number] = kind;
            brims[number] = brim;
            highs[number] = kind == VESSEL || kind == TIPPER ? 0 : brim;
            lows[number] = 0;
            owns[number] = NONE;
            tipTos[number] = NONE;
            overTos[number] = NONE;
            vessels = number + 1;
            return number;
        }

        int addPipe(int from, int to) {
            int number = pipes;
            if (number >= PIPE_ROOM) {
                return NONE;
            }
            froms[number] = from;
            tos[number] = to;
            pipes = number + 1;
            return number;
        }

        /** The SIPHON whose OWN PIPE this is: there is one at most, as the PIPE comes from it. */
        int siphonOf(int pipe) {
            if (pipe < 0 || pipe >= PIPE_ROOM) {
                return NONE;
            }
            int from = froms[pipe];
            boolean isIts = from >= 0 && from < VESSEL_ROOM && kinds[from] == SIPHON && owns[from] == pipe;
            return isIts ? from : NONE;
        }

        int toldOf(int vessel, int what) {
            switch (what) {
                case 0:
                    return kinds[vessel];
                case 1:
                    return brims[vessel];
                case 2:
                    return hasHigh(vessel) ? highs[vessel] : NONE;
                case 3:
                    return isFloat(vessel) ? lows[vessel] : NONE;
                case 4:
                    return owns[vessel];
                case 5:
                    return tipTos[vessel];
                case 6:
                    return overTos[vessel];
                default:
                    return NONE;
            }
        }
    }

    /** The moment, the water and what is open. The moment and all water but byHand count in 1 / grain. */
    private static final class Water {
        long grain = 1;
        long moment;
        long spring;
        long drain;
        long byHand;
        int openPipes;
        int siphoning;
        final long[] levels = new long[VESSEL_ROOM];
        // Each FLOAT's SHUTS, though a CLOCK alone tells them.
        final int[] counted = new int[VESSEL_ROOM];
        final int[] amounts = new int[PIPE_ROOM];

        void takeOver(Water other) {
            grain = other.grain;
            moment = other.moment;
            spring = other.spring;
            drain = other.drain;
            byHand = other.byHand;
            openPipes = other.openPipes;
            siphoning = other.siphoning;
            System.arraycopy(other.levels, 0, levels, 0, VESSEL_ROOM);
            System.arraycopy(other.counted, 0, counted, 0, VESSEL_ROOM);
            System.arraycopy(other.amounts, 0, amounts, 0, PIPE_ROOM);
        }

        boolean isOpen(int pipe) {
            return (openPipes >> pipe & 1) != 0;
        }

        void setOpen(int pipe, boolean is) {
            openPipes = is ? openPipes | 1 << pipe : openPipes & ~(1 << pipe);
        }

        boolean isSiphoning(int vessel) {
            return (siphoning >> vessel & 1) != 0;
        }

        void setSiphoning(int vessel, boolean is) {
            siphoning = is ? siphoning | 1 << vessel : siphoning & ~(1 << vessel);
        }
    }

    /** A plan with its water: how fast it changes, what comes next, and what happens then. */
    private static final class Works {
        final Plan plan;
        final Water water = new Water();

        final int[] ins = new int[VESSEL_ROOM];
        final int[] changes = new int[VESSEL_ROOM];
        final int[] floods = new int[VESSEL_ROOM];
        final int[] flows = new int[PIPE_ROOM];
        int springRate;
        int drainRate;

        // THE NEXT CHANGE is behind a time of gap / (grain * speed); speed 0 is REST.
        long gap;
        long speed;

        // The EVENTS of the latest moment: a VESSEL has one at most.
        final int[] happenedKinds = new int[VESSEL_ROOM];
        final int[] happenedVessels = new int[VESSEL_ROOM];
        int happened;

        Works(Plan plan) {
            this.plan = plan;
        }

        // -- rates --

        boolean runs(int pipe) {
            int siphon = plan.siphonOf(pipe);
            return water.isOpen(pipe) && (siphon == NONE || water.isSiphoning(siphon));
        }

        void reckonRates() {
            springRate = 0;
            drainRate = 0;
            for (int v = 0; v < VESSEL_ROOM; v++) {
                ins[v] = 0;
            }
            for (int p = 0; p < plan.pipes; p++) {
                if (plan.froms[p] == NONE) {
                    flows[p] = runs(p) ? water.amounts[p] : 0;
                    springRate += flows[p];
                    bring(plan.tos[p], flows[p]);
                }
            }
            for (int v = 0; v < plan.vessels; v++) {
                reckonVessel(v);
            }
        }

        private void reckonVessel(int v) {
            int left = ins[v];
            boolean wet = water.levels[v] > 0;
            for (int p = 0; p < plan.pipes; p++) {
                if (plan.froms[p] == v) {
                    int most = wet ? water.amounts[p] : Math.min(water.amounts[p], left);
                    flows[p] = runs(p) ? most : 0;
                    left -= flows[p];
                    bring(plan.tos[p], flows[p]);
                }
            }
            floods[v] = isFull(v) && left > 0 ? left : 0;
            changes[v] = left - floods[v];
            bring(plan.overTos[v], floods[v]);
        }

        private void bring(int to, int rate) {
            if (plan.hasVessel(to)) {
                ins[to] += rate;
            } else {
                drainRate += rate;
            }
        }

        private boolean isFull(int v) {
            return water.levels[v] >= plan.brims[v] * water.grain;
        }

        // -- the next change --

        void seekNext() {
            reckonRates();
            gap = 0;
            speed = 0;
            for (int v = 0; v < plan.vessels; v++) {
                if (changes[v] > 0) {
                    seekRise(v);
                } else if (changes[v] < 0) {
                    seekFall(v);
                }
            }
        }

        private void seekRise(int v) {
            offer(plan.brims[v] * water.grain - water.levels[v], changes[v]);
            boolean heedsHigh = plan.kindOf(v) == SIPHON ? !water.isSiphoning(v) : ownIs(v, true);
            if (heedsHigh) {
                offer(plan.highs[v] * water.grain - water.levels[v], changes[v]);
            }
        }

        private void seekFall(int v) {
            offer(water.levels[v], -changes[v]);
            if (ownIs(v, false)) {
                offer(water.levels[v] - plan.lows[v] * water.grain, -changes[v]);
            }
        }

        /** Whether it is a FLOAT with an OWN PIPE that is OPEN, or SHUT, as asked. */
        private boolean ownIs(int v, boolean open) {
            int own = plan.isFloat(v) ? plan.owns[v] : NONE;
            return own != NONE && water.isOpen(own) == open;
        }

        private void offer(long way, long pace) {
            if (way > 0 && (speed == 0 || way * speed < gap * pace)) {
                gap = way;
                speed = pace;
            }
        }

        boolean rests() {
            return speed == 0;
        }

        long nextMomentAbove() {
            return water.moment * speed + gap;
        }

        long nextMomentBelow() {
            return water.grain * speed;
        }

        boolean nextIsBehind(int until) {
            return nextMomentAbove() > until * nextMomentBelow();
        }

        boolean isBehind(int until) {
            return water.moment > until * water.grain;
        }

        boolean isAt(int when) {
            return water.moment == when * water.grain;
        }

        boolean isAhead(int when) {
            return when * water.grain > water.moment;
        }

        long inVessels() {
            long all = 0;
            for (int v = 0; v < plan.vessels; v++) {
                all += water.levels[v];
            }
            return all;
        }

        // -- going on --

        /** Goes to THE NEXT CHANGE (sought, and there is one) and through its EVENTS; false, and nothing is done: SPENT. */
        boolean step() {
            happened = 0;
            if (!advance(speed, gap)) {
                return false;
            }
            settle();
            return true;
        }

        /** Only where no change comes ahead of it; a whole moment never makes the grain finer. */
        void passTo(int until) {
            advance(1, until * water.grain - water.moment);
        }

        /** A time of way / (grain * scale) passes; false, and nothing is done, if the grain would be too fine. */
        private boolean advance(long scale, long way) {
            long finer = water.grain * scale;
            long common = commonBehind(scale, way, finer);
            if (common == 0 || finer / common > GRAIN_MOST) {
                return false;
            }
            water.grain = finer / common;
            water.moment = (water.moment * scale + way) / common;
            water.spring = (water.spring * scale + springRate * way) / common;
            water.drain = (water.drain * scale + drainRate * way) / common;
            for (int v = 0; v < plan.vessels; v++) {
                water.levels[v] = (water.levels[v] * scale + changes[v] * way) / common;
            }
            return true;
        }

        private long commonBehind(long scale, long way, long finer) {
            long common = gcd(water.moment * scale + way, finer);
            common = gcd(water.spring * scale + springRate * way, common);
            common = gcd(water.drain * scale + drainRate * way, common);
            for (int v = 0; v < plan.vessels && common > 1; v++) {
                common = gcd(water.levels[v] * scale + changes[v] * way, common);
            }
            return common;
        }

        // -- at a moment --

        void settle() {
            happened = 0;
            for (int v = 0; v < plan.vessels; v++) {
                if (plan.kindOf(v) == TIPPER && isFull(v)) {
                    tip(v);
                }
            }
            for (int v = 0; v < plan.vessels; v++) {
                if (plan.kindOf(v) == SIPHON) {
                    settleSiphon(v);
                }
            }
            for (int v = 0; v < plan.vessels; v++) {
                settleFloat(v);
            }
            // What was poured together may be whole again; no time passes.
            advance(1, 0);
        }

        private void tip(int v) {
            long all = water.levels[v];
            water.levels[v] = 0;
            pourTo(plan.tipTos[v], all);
            happen(TIPPED, v);
        }

        /** Each place poured on to has a higher number, so the DRAIN is reached behind all VESSELS at the latest. */
        void pourTo(int to, long poured) {
            int at = to;
            long left = poured;
            for (int i = 0; i < VESSEL_ROOM && left > 0 && plan.hasVessel(at); i++) {
                long goesIn = Math.min(left, plan.brims[at] * water.grain - water.levels[at]);
                water.levels[at] += goesIn;
                left -= goesIn;
                at = plan.overTos[at];
            }
            water.drain += left;
        }

        private void settleSiphon(int v) {
            if (!water.isSiphoning(v)) {
                if (water.levels[v] >= plan.highs[v] * water.grain) {
                    water.setSiphoning(v, true);
                    happen(BEGAN, v);
                }
            } else if (water.levels[v] == 0) {
                water.setSiphoning(v, false);
                happen(ENDED, v);
            }
        }

        private void settleFloat(int v) {
            if (ownIs(v, true)) {
                if (water.levels[v] >= plan.highs[v] * water.grain) {
                    water.setOpen(plan.owns[v], false);
                    water.counted[v]++;
                    happen(SHUT, v);
                }
            } else if (ownIs(v, false) && water.levels[v] <= plan.lows[v] * water.grain) {
                water.setOpen(plan.owns[v], true);
                happen(OPENED, v);
            }
        }

        private void happen(int kind, int v) {
            if (happened < VESSEL_ROOM) {
                happenedKinds[happened] = kind;
                happenedVessels[happened] = v;
                happened++;
            }
        }

        boolean hasHappened(int kind, int v) {
            for (int i = 0; i < happened && i < VESSEL_ROOM; i++) {
                if (happenedKinds[i] == kind && happenedVessels[i] == v) {
                    return true;
                }
            }
            return false;
        }
    }

    /** The EVENTS that came: all are counted, the first ones kept. */
    private static final class Log {
        int came;
        final int[] kinds = new int[EVENT_ROOM];
        final int[] vessels = new int[EVENT_ROOM];
        final int[] aboves = new int[EVENT_ROOM];
        final int[] belows = new int[EVENT_ROOM];

        void take(Works works) {
            for (int i = 0; i < works.happened && i < VESSEL_ROOM; i++) {
                if (came < EVENT_ROOM) {
                    kinds[came] = works.happenedKinds[i];
                    vessels[came] = works.happenedVessels[i];
                    aboves[came] = (int) above(works.water.moment, works.water.grain);
                    belows[came] = (int) below(works.water.moment, works.water.grain);
                }
                came++;
            }
        }

        int toldOf(int i, int what) {
            if (i < 0 || i >= came || i >= EVENT_ROOM) {
                return NONE;
            }
            switch (what) {
                case 0:
                    return kinds[i];
                case 1:
                    return vessels[i];
                case 2:
                    return aboves[i];
                case 3:
                    return belows[i];
                default:
                    return NONE;
            }
        }
    }

    /** THE STATES behind one change after the other, to find the first that was there already. */
    private static final class Rounds {
        private static final int ROOM = ROUND_MOMENTS + 1;

        final long[] grains = new long[ROOM];
        final long[] moments = new long[ROOM];
        final int[] openPipes = new int[ROOM];
        final int[] siphonings = new int[ROOM];
        final long[] levels = new long[ROOM * VESSEL_ROOM];
        long beginAbove;
        long beginBelow;
        long spanAbove;
        long spanBelow;

        int seek(Works works) {
            keep(0, works.water);
            for (int n = 1; n < ROOM; n++) {
                works.seekNext();
                if (works.rests()) {
                    return ROUND_RESTS;
                }
                if (!works.step()) {
                    return ROUND_UNKNOWN;
                }
                int earlier = firstLike(works.water, n);
                if (earlier != NONE) {
                    tell(earlier, works.water);
                    return ROUND_FOUND;
                }
                keep(n, works.water);
            }
            works.seekNext();
            return works.rests() ? ROUND_RESTS : ROUND_UNKNOWN;
        }

        int toldOf(int what) {
            switch (what) {
                case 1:
                    return (int) above(beginAbove, beginBelow);
                case 2:
                    return (int) below(beginAbove, beginBelow);
                case 3:
                    return (int) above(spanAbove, spanBelow);
                case 4:
                    return (int) below(spanAbove, spanBelow);
                default:
                    return NONE;
            }
        }

        private void keep(int i, Water water) {
            if (i < 0 || i >= ROOM) {
                return;
            }
            grains[i] = water.grain;
            moments[i] = water.moment;
            openPipes[i] = water.openPipes;
            siphonings[i] = water.siphoning;
            System.arraycopy(water.levels, 0, levels, i * VESSEL_ROOM, VESSEL_ROOM);
        }

        private int firstLike(Water water, int kept) {
            for (int i = 0; i < kept && i < ROOM; i++) {
                if (isLike(i, water)) {
                    return i;
                }
            }
            return NONE;
        }

        /** The grains may differ, as the moment and the sums are no part of THE STATE. */
        private boolean isLike(int i, Water water) {
            if (openPipes[i] != water.openPipes || siphonings[i] != water.siphoning) {
                return false;
            }
            for (int v = 0; v < VESSEL_ROOM; v++) {
                if (levels[i * VESSEL_ROOM + v] * water.grain != water.levels[v] * grains[i]) {
                    return false;
                }
            }
            return true;
        }

        private void tell(int earlier, Water later) {
            beginAbove = moments[earlier];
            beginBelow = grains[earlier];
            spanAbove = later.moment * beginBelow - beginAbove * later.grain;
            spanBelow = later.grain * beginBelow;
        }
    }

    /** What the bodies of one act read, and THE TRACE that they leave. */
    private static final class ActRun {
        int brim;
        int high;
        int low;
        int counted;
        int traced;
        final int[] bodies = new int[TRACE_ROOM];

        void begin(Plan plan, Water water, int vessel) {
            traced = 0;
            if (plan.hasVessel(vessel)) {
                brim = plan.brims[vessel];
                high = plan.highs[vessel];
                low = plan.lows[vessel];
                counted = water.counted[vessel];
            }
        }

        void began(int body) {
            if (traced < TRACE_ROOM) {
                bodies[traced] = body;
                traced++;
            }
        }
    }

    private static class VesselActs {
        final ActRun run;

        VesselActs(ActRun run) {
            this.run = run;
        }

        int fillBody(int x) {
            run.began(10);
            return x + run.brim;
        }

        int turnBody(int x) {
            run.began(11);
            return fillBody(x) * 3;
        }

        int countBody(int x) {
            run.began(12);
            return x ^ run.brim;
        }

        int tellBody(int x) {
            run.began(13);
            return turnBody(x) - countBody(x);
        }
    }

    private static final class SiphonActs extends VesselActs {
        SiphonActs(ActRun run) {
            super(run);
        }

        int turnBody(int x) {
            run.began(20);
            return super.turnBody(x) + run.high;
        }

        int tellBody(int x) {
            run.began(21);
            return super.tellBody(x * 2);
        }
    }

    private static final class TipperActs extends VesselActs {
        TipperActs(ActRun run) {
            super(run);
        }

        int fillBody(int x) {
            run.began(30);
            return super.fillBody(x) * 2;
        }
    }

    private static class FloatActs extends VesselActs {
        FloatActs(ActRun run) {
            super(run);
        }

        int countBody(int x) {
            run.began(40);
            return super.countBody(x) + run.low;
        }

        int fillBody(int x) {
            run.began(41);
            return super.fillBody(x + run.high);
        }
    }

    private static final class ClockActs extends FloatActs {
        ClockActs(ActRun run) {
            super(run);
        }

        int countBody(int x) {
            run.began(50);
            return super.countBody(x) + run.counted;
        }

        int turnBody(int x) {
            run.began(51);
            return super.turnBody(x) ^ run.counted;
        }
    }
}
