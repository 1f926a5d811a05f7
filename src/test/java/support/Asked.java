/** All that questions tell of a bench, but for its STATUS: 250 calls at most, so that two fit into an object's 512. */
final class Asked {
    private Asked() {
    }

    static String all(HeronsBench x) {
        StringBuilder told = new StringBuilder();
        for (int what = 0; what <= 2; what++) {
            put(told, "now", x.now(what));
        }
        for (int what = 0; what <= 1; what++) {
            put(told, "next", x.next(what));
        }
        for (int what = 0; what <= 3; what++) {
            put(told, "count", x.count(what));
        }
        for (int what = 0; what <= 4; what++) {
            put(told, "round", x.round(what));
        }
        for (int what = 0; what <= 6; what++) {
            put(told, "sum", x.sum(what));
        }
        askVessels(told, x);
        askPipes(told, x);
        askEvents(told, x);
        int bodies = x.count(3);
        for (int i = 0; i < bodies; i++) {
            put(told, "body", x.trace(i));
        }
        return told.toString();
    }

    private static void askVessels(StringBuilder told, HeronsBench x) {
        int vessels = x.count(0);
        for (int v = 0; v < vessels; v++) {
            told.append("VESSEL ").append(v).append(": ");
            put(told, "level", x.level(v, 0));
            put(told, "/", x.level(v, 1));
            put(told, "rate", x.rate(v));
            put(told, "flood", x.flood(v));
            for (int what = 0; what <= 8; what++) {
                put(told, "told", x.told(v, what));
            }
        }
    }

    private static void askPipes(StringBuilder told, HeronsBench x) {
        int pipes = x.count(1);
        for (int p = 0; p < pipes; p++) {
            told.append("PIPE ").append(p).append(": ");
            put(told, "flow", x.flow(p));
            for (int what = 0; what <= 4; what++) {
                put(told, "told", x.pipeTold(p, what));
            }
        }
    }

    /** The last two that are kept; how many came is asked already. */
    private static void askEvents(StringBuilder told, HeronsBench x) {
        int last = Math.min(x.count(2), 400) - 1;
        for (int i = Math.max(0, last - 1); i <= last; i++) {
            put(told, "EVENT " + i, x.event(i, 0));
            put(told, "of", x.event(i, 1));
            put(told, "at", x.event(i, 2));
            put(told, "/", x.event(i, 3));
        }
    }

    private static void put(StringBuilder told, String name, long answer) {
        told.append(name).append(' ').append(answer).append(", ");
    }

    /** Some time, a hand's act and an ACT, to see what no question tells. */
    static String goOn(HeronsBench x) {
        int here = x.now(0) / x.now(1);
        return x.go(Math.min(10000, here + 3)) + " " + x.fill(0, 2) + " " + x.act(x.count(0) - 1, 3, 5);
    }
}
