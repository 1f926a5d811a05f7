import java.util.function.IntToLongFunction;

/** What is due of one call after the other; each fault is told with the sentence of the document that asks for it. */
final class Due {
    interface Maker {
        HeronsBench make();
    }

    interface Call {
        long on(HeronsBench x);
    }

    interface NumberCall {
        long on(HeronsBench x, int n);
    }

    private String sentence = "";
    private int sentences;
    private int checks;
    private int wrong;

    void sentence(String text) {
        sentence = text;
        sentences++;
    }

    void is(String what, long got, long want) {
        checks++;
        if (got != want) {
            fault(what + " answered " + got + ", due is " + want);
        }
    }

    void fraction(String what, long above, long below, long wantAbove, long wantBelow) {
        is(what + " above", above, wantAbove);
        is(what + " below", below, wantBelow);
    }

    void event(HeronsBench x, int i, int kind, int vessel, int above, int below) {
        is("event(" + i + ", 0)", x.event(i, 0), kind);
        is("event(" + i + ", 1)", x.event(i, 1), vessel);
        fraction("event(" + i + ", ..)", x.event(i, 2), x.event(i, 3), above, below);
    }

    /** The call was done: STATUS 0. */
    void done(HeronsBench x, String call, long got, long want) {
        is(call, got, want);
        is("status() behind " + call, x.status(), 0);
    }

    /** On a new bench the call is done. */
    void does(Maker maker, String call, Call made, long want) {
        HeronsBench x = maker.make();
        // a refused call ahead of it, so that the STATUS is seen to be set
        x.forge(5, 0, 0);
        done(x, call, made.on(x), want);
    }

    /** The call answers -1, sets the STATUS and changes nothing else: one that was never asked is the same, now and later. */
    void refuses(Maker maker, String call, Call made, int status) {
        HeronsBench x = maker.make();
        HeronsBench twin = maker.make();
        is(call, made.on(x), -1);
        is("status() behind " + call, x.status(), status);
        same(call + " changed ", Asked.all(x), Asked.all(twin));
        is("status() behind questions", x.status(), status);
        same("going on behind " + call, Asked.goOn(x), Asked.goOn(twin));
        same(call + " changed what came later: ", Asked.all(x), Asked.all(twin));
    }

    /** Done with the first and the last number inside, refused with those next to them, and far away. */
    void bounds(Maker maker, String call, NumberCall made, int least, int most, IntToLongFunction want, int status) {
        inside(maker, call, made, least, want);
        inside(maker, call, made, most, want);
        outside(maker, call, made, least - 1, status);
        outside(maker, call, made, most + 1, status);
        outside(maker, call, made, Integer.MIN_VALUE, status);
        outside(maker, call, made, Integer.MAX_VALUE, status);
    }

    void inside(Maker maker, String call, NumberCall made, int n, IntToLongFunction want) {
        does(maker, call + " with " + n, x -> made.on(x, n), want.applyAsLong(n));
    }

    void outside(Maker maker, String call, NumberCall made, int n, int status) {
        refuses(maker, call + " with " + n, x -> made.on(x, n), status);
    }

    /** A question: what it answers outside of its numbers; it sets no STATUS, and changes nothing. */
    void asks(Maker maker, String call, NumberCall made, int least, int most, long outside) {
        for (int n : new int[] {least - 1, most + 1, Integer.MIN_VALUE, Integer.MAX_VALUE}) {
            is(call + " with " + n, made.on(maker.make(), n), outside);
        }
        HeronsBench x = maker.make();
        x.forge(5, 0, 0);
        for (int n = least - 1; n <= most + 1; n++) {
            made.on(x, n);
        }
        is("status() behind " + call, x.status(), 15);
        same(call + " changed ", Asked.all(x), Asked.all(maker.make()));
    }

    void same(String what, String got, String want) {
        checks++;
        if (!got.equals(want)) {
            fault(what + "\n      " + got + "\n   is not\n      " + want);
        }
    }

    private void fault(String text) {
        wrong++;
        System.out.println("'" + sentence + "': " + text);
    }

    void end() {
        System.out.println(sentences + " sentences, " + checks + " checks, " + wrong + " wrong");
        if (wrong != 0) {
            System.exit(1);
        }
    }
}
