import java.math.BigInteger;
import java.util.ArrayList;
import java.util.List;

/**
 * The document once more, written as plainly as it can be and without a thought of speed, to hold the class
 * against in runs of random calls.
 */
final class PlainBench {
    static final class Vessel {
        int number;
        int kind;
        int brim;
        int high;
        int low;
        int own = -1;
        int tips = -1;
        int over = -1;
        boolean siphoning;
        int counted;
        Frac level = Frac.ZERO;
        int in;
        int change;
        int flood;

        boolean floats() {
            return kind == 3 || kind == 4;
        }

        boolean full() {
            return level.compareTo(Frac.of(brim)) >= 0;
        }

        Vessel copy() {
            Vessel v = new Vessel();
            v.number = number;
            v.kind = kind;
            v.brim = brim;
            v.high = high;
            v.low = low;
            v.own = own;
            v.tips = tips;
            v.over = over;
            v.siphoning = siphoning;
            v.counted = counted;
            v.level = level;
            return v;
        }
    }

    static final class Pipe {
        int from;
        int to;
        int amount;
        boolean open = true;
        int flow;

        Pipe copy() {
            Pipe p = new Pipe();
            p.from = from;
            p.to = to;
            p.amount = amount;
            p.open = open;
            return p;
        }
    }

    static final class Event {
        int kind;
        int vessel;
        Frac moment;
    }

    final List<Vessel> vessels = new ArrayList<>();
    final List<Pipe> pipes = new ArrayList<>();
    final List<Event> events = new ArrayList<>();
    final List<Integer> trace = new ArrayList<>();
    Frac moment = Frac.ZERO;
    Frac spring = Frac.ZERO;
    Frac drain = Frac.ZERO;
    long poured;
    int springRate;
    int drainRate;
    int status;

    private PlainBench copy() {
        PlainBench b = new PlainBench();
        for (Vessel v : vessels) {
            b.vessels.add(v.copy());
        }
        for (Pipe p : pipes) {
            b.pipes.add(p.copy());
        }
        b.moment = moment;
        b.spring = spring;
        b.drain = drain;
        return b;
    }

    private int no(int why) {
        status = why;
        return -1;
    }

    private int yes(int answer) {
        status = 0;
        return answer;
    }

    private int hand(int answer) {
        happen();
        return yes(answer);
    }

    private boolean isVessel(int v) {
        return v >= 0 && v < vessels.size();
    }

    private boolean isPipe(int p) {
        return p >= 0 && p < pipes.size();
    }

    private boolean wrongGoal(int from, int to) {
        return to != -1 && (!isVessel(to) || to <= from);
    }

    // ---- terms ----

    boolean runs(int number) {
        Pipe p = pipes.get(number);
        if (!p.open) {
            return false;
        }
        for (Vessel v : vessels) {
            if (v.kind == 1 && v.own == number && !v.siphoning) {
                return false;
            }
        }
        return true;
    }

    private void arrive(int to, int rate) {
        if (to == -1) {
            drainRate += rate;
        } else {
            vessels.get(to).in += rate;
        }
    }

    void rates() {
        springRate = 0;
        drainRate = 0;
        for (Vessel v : vessels) {
            v.in = 0;
        }
        for (int i = 0; i < pipes.size(); i++) {
            Pipe p = pipes.get(i);
            p.flow = 0;
            if (p.from == -1 && runs(i)) {
                p.flow = p.amount;
                springRate += p.flow;
                arrive(p.to, p.flow);
            }
        }
        for (Vessel v : vessels) {
            int out = 0;
            for (int i = 0; i < pipes.size(); i++) {
                Pipe p = pipes.get(i);
                if (p.from == v.number && runs(i)) {
                    p.flow = v.level.sign() > 0 ? p.amount : Math.min(p.amount, v.in - out);
                    out += p.flow;
                    arrive(p.to, p.flow);
                }
            }
            v.change = v.in - out;
            v.flood = 0;
            if (v.full() && v.change > 0) {
                v.flood = v.change;
                v.change = 0;
                arrive(v.over, v.flood);
            }
        }
    }

    /** The time till the next change; null: rest. */
    Frac timeTillChange() {
        rates();
        Frac least = null;
        for (Vessel v : vessels) {
            List<Integer> marks = new ArrayList<>();
            if (v.change > 0) {
                marks.add(v.brim);
                if (v.kind == 1 && !v.siphoning || v.floats() && v.own != -1 && pipes.get(v.own).open) {
                    marks.add(v.high);
                }
            }
            if (v.change < 0) {
                marks.add(0);
                if (v.floats() && v.own != -1 && !pipes.get(v.own).open) {
                    marks.add(v.low);
                }
            }
            for (int mark : marks) {
                Frac time = Frac.of(mark).minus(v.level).over(v.change);
                if (time.sign() > 0 && (least == null || time.compareTo(least) < 0)) {
                    least = time;
                }
            }
        }
        return least;
    }

    private void pass(Frac time) {
        rates();
        for (Vessel v : vessels) {
            v.level = v.level.plus(time.times(v.change));
        }
        spring = spring.plus(time.times(springRate));
        drain = drain.plus(time.times(drainRate));
        moment = moment.plus(time);
    }

    int grain() {
        BigInteger g = BigInteger.ONE;
        List<Frac> all = new ArrayList<>(List.of(moment, spring, drain));
        for (Vessel v : vessels) {
            all.add(v.level);
        }
        for (Frac f : all) {
            g = g.divide(g.gcd(f.below)).multiply(f.below);
        }
        return g.bitLength() > 30 ? Integer.MAX_VALUE : g.intValue();
    }

    /** Whether going that long makes the grain too fine. */
    private boolean spent(Frac time) {
        PlainBench ahead = copy();
        ahead.pass(time);
        return ahead.grain() > 10000;
    }

    private void add(int kind, Vessel v) {
        Event e = new Event();
        e.kind = kind;
        e.vessel = v.number;
        e.moment = moment;
        events.add(e);
    }

    private void pour(int to, Frac water) {
        if (to == -1) {
            drain = drain.plus(water);
            return;
        }
        Vessel v = vessels.get(to);
        Frac all = v.level.plus(water);
        v.level = all.min(Frac.of(v.brim));
        Frac beyond = all.minus(v.level);
        if (beyond.sign() > 0) {
            pour(v.over, beyond);
        }
    }

    void happen() {
        for (Vessel v : vessels) {
            if (v.kind == 2 && v.full()) {
                Frac water = v.level;
                v.level = Frac.ZERO;
                pour(v.tips, water);
                add(1, v);
            }
        }
        for (Vessel v : vessels) {
            if (v.kind == 1) {
                if (!v.siphoning && v.level.compareTo(Frac.of(v.high)) >= 0) {
                    v.siphoning = true;
                    add(2, v);
                } else if (v.siphoning && v.level.sign() == 0) {
                    v.siphoning = false;
                    add(3, v);
                }
            }
        }
        for (Vessel v : vessels) {
            if (v.floats() && v.own != -1) {
                Pipe p = pipes.get(v.own);
                if (p.open && v.level.compareTo(Frac.of(v.high)) >= 0) {
                    p.open = false;
                    if (v.kind == 4) {
                        v.counted++;
                    }
                    add(4, v);
                } else if (!p.open && v.level.compareTo(Frac.of(v.low)) <= 0) {
                    p.open = true;
                    add(5, v);
                }
            }
        }
    }

    private String state() {
        StringBuilder s = new StringBuilder();
        for (Vessel v : vessels) {
            s.append(v.level).append(v.siphoning).append(' ');
        }
        for (Pipe p : pipes) {
            s.append(p.open).append(' ');
        }
        return s.toString();
    }

    // ---- hands ----

    int vessel(int kind, int brim) {
        if (kind < 0 || kind > 4 || brim < 1 || brim > 200) {
            return no(1);
        }
        if (vessels.size() == 8) {
            return no(2);
        }
        Vessel v = new Vessel();
        v.number = vessels.size();
        v.kind = kind;
        v.brim = brim;
        v.high = brim;
        vessels.add(v);
        return hand(v.number);
    }

    int marks(int vessel, int high, int low) {
        if (!isVessel(vessel)) {
            return no(1);
        }
        Vessel v = vessels.get(vessel);
        if (v.kind == 0 || v.kind == 2) {
            return no(3);
        }
        if (high < 1 || high > v.brim || v.floats() && (low < 0 || low >= high)) {
            return no(1);
        }
        v.high = high;
        v.low = v.floats() ? low : 0;
        return hand(1);
    }

    int own(int vessel, int pipe) {
        if (!isVessel(vessel) || !isPipe(pipe)) {
            return no(1);
        }
        Vessel v = vessels.get(vessel);
        if (v.kind == 0 || v.kind == 2 || v.kind == 1 && pipes.get(pipe).from != vessel) {
            return no(3);
        }
        v.own = pipe;
        return hand(1);
    }

    int tips(int vessel, int to) {
        if (!isVessel(vessel) || wrongGoal(vessel, to)) {
            return no(1);
        }
        if (vessels.get(vessel).kind != 2) {
            return no(3);
        }
        vessels.get(vessel).tips = to;
        return hand(1);
    }

    int over(int vessel, int to) {
        if (!isVessel(vessel) || wrongGoal(vessel, to)) {
            return no(1);
        }
        vessels.get(vessel).over = to;
        return hand(1);
    }

    int pipe(int from, int to, int amount) {
        if (from != -1 && !isVessel(from) || wrongGoal(from, to) || from == -1 && to == -1
                || amount < 1 || amount > 20) {
            return no(1);
        }
        if (pipes.size() == 14) {
            return no(2);
        }
        Pipe p = new Pipe();
        p.from = from;
        p.to = to;
        p.amount = amount;
        pipes.add(p);
        return hand(pipes.size() - 1);
    }

    int fill(int vessel, int n) {
        if (!isVessel(vessel) || n < 1 || n > 1000) {
            return no(1);
        }
        poured += n;
        pour(vessel, Frac.of(n));
        return hand(1);
    }

    int shut(int pipe, boolean is) {
        if (!isPipe(pipe)) {
            return no(1);
        }
        int answer = pipes.get(pipe).open == is ? 1 : 0;
        pipes.get(pipe).open = !is;
        return hand(answer);
    }

    int amount(int pipe, int n) {
        if (!isPipe(pipe) || n < 1 || n > 20) {
            return no(1);
        }
        int was = pipes.get(pipe).amount;
        pipes.get(pipe).amount = n;
        return hand(was);
    }

    int go(int until) {
        Frac end = Frac.of(until);
        if (end.compareTo(moment) < 0 || until > 10000) {
            return no(1);
        }
        int before = events.size();
        int moments = 0;
        while (true) {
            Frac time = timeTillChange();
            if (time == null || moment.plus(time).compareTo(end) > 0) {
                pass(end.minus(moment));
                return yes(events.size() - before);
            }
            if (moments == 150 || spent(time)) {
                return no(4);
            }
            pass(time);
            happen();
            moments++;
        }
    }

    // ---- questions ----

    private static long part(Frac f, int what) {
        return (what == 0 ? f.above : f.below).longValueExact();
    }

    int now(int what) {
        return what == 0 || what == 1 ? (int) part(moment, what) : what == 2 ? grain() : -1;
    }

    long next(int what) {
        Frac time = timeTillChange();
        return time == null || what < 0 || what > 1 ? -1 : part(moment.plus(time), what);
    }

    int level(int vessel, int what) {
        return !isVessel(vessel) || what < 0 || what > 1 ? -1 : (int) part(vessels.get(vessel).level, what);
    }

    int rate(int vessel) {
        rates();
        return isVessel(vessel) ? vessels.get(vessel).change : -1000000;
    }

    int flow(int pipe) {
        rates();
        return isPipe(pipe) ? pipes.get(pipe).flow : -1;
    }

    int flood(int vessel) {
        rates();
        return isVessel(vessel) ? vessels.get(vessel).flood : -1;
    }

    int told(int vessel, int what) {
        if (!isVessel(vessel)) {
            return -1;
        }
        Vessel v = vessels.get(vessel);
        return switch (what) {
            case 0 -> v.kind;
            case 1 -> v.brim;
            case 2 -> v.kind == 1 || v.floats() ? v.high : -1;
            case 3 -> v.floats() ? v.low : -1;
            case 4 -> v.own;
            case 5 -> v.tips;
            case 6 -> v.over;
            case 7 -> v.kind != 1 ? -1 : v.siphoning ? 1 : 0;
            case 8 -> v.kind == 4 ? v.counted : -1;
            default -> -1;
        };
    }

    int pipeTold(int pipe, int what) {
        if (!isPipe(pipe)) {
            return -2;
        }
        Pipe p = pipes.get(pipe);
        return switch (what) {
            case 0 -> p.from;
            case 1 -> p.to;
            case 2 -> p.amount;
            case 3 -> p.open ? 1 : 0;
            case 4 -> runs(pipe) ? 1 : 0;
            default -> -2;
        };
    }

    int count(int what) {
        return switch (what) {
            case 0 -> vessels.size();
            case 1 -> pipes.size();
            case 2 -> events.size();
            case 3 -> trace.size();
            default -> -1;
        };
    }

    int event(int i, int what) {
        if (i < 0 || i >= events.size() || i >= 400) {
            return -1;
        }
        Event e = events.get(i);
        return switch (what) {
            case 0 -> e.kind;
            case 1 -> e.vessel;
            case 2 -> (int) part(e.moment, 0);
            case 3 -> (int) part(e.moment, 1);
            default -> -1;
        };
    }

    long sum(int what) {
        Frac inside = Frac.ZERO;
        for (Vessel v : vessels) {
            inside = inside.plus(v.level);
        }
        return switch (what) {
            case 0, 1 -> part(spring, what);
            case 2 -> poured;
            case 3, 4 -> part(drain, what - 3);
            case 5, 6 -> part(inside, what - 5);
            default -> -1;
        };
    }

    int round(int what) {
        if (what < 0 || what > 4) {
            return -1;
        }
        PlainBench ahead = copy();
        List<String> states = new ArrayList<>(List.of(ahead.state()));
        List<Frac> moments = new ArrayList<>(List.of(ahead.moment));
        while (true) {
            Frac time = ahead.timeTillChange();
            if (time == null) {
                return what == 0 ? 0 : -1;
            }
            if (states.size() > 150 || ahead.spent(time)) {
                return what == 0 ? -2 : -1;
            }
            ahead.pass(time);
            ahead.happen();
            int earlier = states.indexOf(ahead.state());
            if (earlier >= 0) {
                Frac begin = moments.get(earlier);
                Frac span = ahead.moment.minus(begin);
                return what == 0 ? 1 : (int) (what < 3 ? part(begin, what - 1) : part(span, what - 3));
            }
            states.add(ahead.state());
            moments.add(ahead.moment);
        }
    }

    /** The moment at which a float first shuts in the next 60 moments of changes; null: none. */
    private Frac firstShut(int vessel) {
        for (int i = 0; i < 60; i++) {
            Frac time = timeTillChange();
            if (time == null || spent(time)) {
                return null;
            }
            pass(time);
            happen();
            for (Event e : events) {
                if (e.kind == 4 && e.vessel == vessel) {
                    return e.moment;
                }
            }
        }
        return null;
    }

    Frac firstShutWith(int pipe, int amount, int vessel) {
        if (!isPipe(pipe)) {
            return null;
        }
        PlainBench ahead = copy();
        ahead.pipes.get(pipe).amount = amount;
        return ahead.firstShut(vessel);
    }

    int tune(int pipe, int low, int high, int vessel, int when) {
        if (!isPipe(pipe) || low < 1 || low > 20 || high < 1 || high > 20 || !isVessel(vessel)
                || !vessels.get(vessel).floats() || Frac.of(when).compareTo(moment) <= 0 || when > 10000) {
            return no(1);
        }
        for (int n = low; n <= high; n++) {
            Frac at = firstShutWith(pipe, n, vessel);
            if (at != null && at.compareTo(Frac.of(when)) == 0) {
                return yes(n);
            }
        }
        return no(3);
    }

    // ---- acts: a body is found by its kind and act in a table, as the document lists them ----

    private static final int[] ABOVE = {-1, 0, 0, 0, 3};
    private static final int[][] BODIES = {
        {10, 11, 12, 13}, {0, 20, 0, 21}, {30, 0, 0, 0}, {41, 0, 40, 0}, {0, 51, 50, 0}};

    private int call(Vessel v, int fromKind, int act, int x) {
        int kind = fromKind;
        while (BODIES[kind][act] == 0) {
            kind = ABOVE[kind];
        }
        int body = BODIES[kind][act];
        if (trace.size() < 50) {
            trace.add(body);
        }
        int up = ABOVE[kind];
        return switch (body) {
            case 10 -> x + v.brim;
            case 11 -> call(v, v.kind, 0, x) * 3;
            case 12 -> x ^ v.brim;
            case 13 -> call(v, v.kind, 1, x) - call(v, v.kind, 2, x);
            case 20 -> call(v, up, 1, x) + v.high;
            case 21 -> call(v, up, 3, x * 2);
            case 30 -> call(v, up, 0, x) * 2;
            case 40 -> call(v, up, 2, x) + v.low;
            case 41 -> call(v, up, 0, x + v.high);
            case 50 -> call(v, up, 2, x) + v.counted;
            default -> call(v, up, 1, x) ^ v.counted;
        };
    }

    int act(int vessel, int act, int x) {
        if (!isVessel(vessel) || act < 0 || act > 3) {
            return no(1);
        }
        trace.clear();
        Vessel v = vessels.get(vessel);
        return yes(call(v, v.kind, act, x));
    }

    int trace(int i) {
        return i >= 0 && i < trace.size() ? trace.get(i) : -1;
    }

    // ---- forge: here the host really refuses ----

    private static class HostVessel { }

    private static class HostSiphon extends HostVessel { }

    private static class HostTipper extends HostVessel { }

    private static class HostFloat extends HostVessel { }

    private static class HostClock extends HostFloat { }

    private HostVessel host(int vessel) {
        if (!isVessel(vessel)) {
            return null;
        }
        return switch (vessels.get(vessel).kind) {
            case 0 -> new HostVessel();
            case 1 -> new HostSiphon();
            case 2 -> new HostTipper();
            case 3 -> new HostFloat();
            default -> new HostClock();
        };
    }

    private static final Class<?>[] HOSTS = {
        HostVessel.class, HostSiphon.class, HostTipper.class, HostFloat.class, HostClock.class};

    int forge(int what, int n, int k) {
        if (what < 0 || what > 6 || n < -100 || n > 100 || k < -100 || k > 100) {
            return no(1);
        }
        int[] brims = new int[vessels.size()];
        for (Vessel v : vessels) {
            brims[v.number] = v.brim;
        }
        int vessel = Math.floorMod(k, 8);
        try {
            return yes(forged(what, n, k, brims, vessel));
        } catch (ClassCastException e) {
            return no(11);
        } catch (IndexOutOfBoundsException e) {
            return no(12);
        } catch (NegativeArraySizeException e) {
            return no(13);
        } catch (ArrayStoreException e) {
            return no(14);
        } catch (ArithmeticException e) {
            return no(15);
        } catch (NullPointerException e) {
            return no(10);
        }
    }

    private int forged(int what, int n, int k, int[] brims, int vessel) {
        switch (what) {
            case 0:
                HOSTS[Math.floorMod(n, 5)].cast(java.util.Objects.requireNonNull(host(vessel)));
                return vessels.get(vessel).kind;
            case 1:
                return new int[n].length;
            case 2:
                return brims[n];
            case 3:
                int[] row = new int[6];
                System.arraycopy(brims, k, row, 0, n);
                return java.util.Arrays.stream(row).sum();
            case 4:
                HostVessel[] floats = new HostFloat[1];
                floats[0] = host(vessel);
                return floats[0] == null ? 0 : vessels.get(vessel).brim;
            case 5:
                return 1000 / n;
            default:
                RuntimeException failure = Math.floorMod(n, 2) == 0 ? null : new IllegalStateException();
                try {
                    throw failure;
                } catch (IllegalStateException e) {
                    return 1;
                }
        }
    }

    int status() {
        return status;
    }
}
