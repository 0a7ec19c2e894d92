import java.util.List;
import java.util.function.Supplier;
import java.util.function.ToIntFunction;

/**
 * Tests of boundary cases, each for one sentence of the document, which it names. A scene makes
 * an object with some calls behind it, a new one whenever it is asked.
 */
abstract class Boundaries {
    static final int INVALID = RampPermits.INVALID_ARGUMENT;
    static final int ILLEGAL = RampPermits.ILLEGAL_STATE;
    static final int FULL = RampPermits.CAPACITY_EXCEEDED;
    static final int NONE = RampPermits.NONE;
    static final int LEAST = Integer.MIN_VALUE;
    static final int GREATEST = Integer.MAX_VALUE;

    private final Due due;
    private final Claims claims;

    Boundaries(Due due, Claims claims) {
        this.due = due;
        this.claims = claims;
    }

    /** A call with one argument that is varied. */
    interface Argument {
        int on(RampPermits x, int value);
    }

    abstract void testAll();

    /** What follows tests the sentence of this section that has these words in it. */
    final void sentence(String section, String words) {
        claims.add(section, words);
        due.part(section + ", '" + words + "'");
    }

    final void is(String call, int got, int want) {
        due.is(call, got, want);
    }

    final void isTrue(String what, boolean holds) {
        due.isTrue(what, holds);
    }

    /** The least and the greatest value of an argument are let, the ones next to them are not. */
    final void range(Supplier<RampPermits> scene, String call, int least, int greatest, Argument argument,
            int wantLeast, int wantGreatest) {
        is(call + " of " + least, argument.on(scene.get(), least), wantLeast);
        is(call + " of " + greatest, argument.on(scene.get(), greatest), wantGreatest);
        refusedOf(scene, call, argument, INVALID, least - 1, greatest + 1);
    }

    /** Values of an argument are refused, and nothing changes by it. */
    final void refusedOf(Supplier<RampPermits> scene, String call, Argument argument, int want, int... values) {
        for (int value : values) {
            refused(scene, call + " of " + value, x -> argument.on(x, value), want);
        }
    }

    /** A call is refused, and nothing changes by it. */
    final void refused(Supplier<RampPermits> scene, String call, ToIntFunction<RampPermits> calling, int want) {
        is(call, calling.applyAsInt(scene.get()), want);
        unchanged(scene, call, calling);
    }

    /** Nothing changes by a call. */
    final void unchanged(Supplier<RampPermits> scene, String call, ToIntFunction<RampPermits> calling) {
        alike(call, Probe.views(Probe.after(scene, calling)), Probe.views(scene));
    }

    final void alike(String call, List<String> got, List<String> want) {
        for (int way = 0; way < Probe.ways(); way++) {
            isTrue(call + " changes nothing, seen " + Probe.nameOf(way), got.get(way).equals(want.get(way)));
        }
    }

    /**
     * A successful call records the state before it: one state in an empty history, one for the
     * oldest in a full one; undo() makes all as it was.
     */
    final void recorded(Supplier<RampPermits> scene, String call, ToIntFunction<RampPermits> calling) {
        Supplier<RampPermits> empty = Probe.after(scene, x -> {
            Calls.forgetHistory(x);
            return 0;
        });
        RampPermits x = Probe.after(empty, calling).get();
        is("states after " + call, x.count(6), 1);
        is("undo() of " + call, x.undo(), 0);
        isTrue("undo() of " + call + " makes all as it was", undoableOf(x).equals(undoableOf(empty.get())));
        RampPermits full = fullHistory(empty.get());
        calling.applyAsInt(full);
        is("states after " + call + " with a full history", full.count(6), 5);
        is("undo() of " + call + " with a full history", full.undo(), 4);
        is("the rate before " + call, full.rate(20), 5);
        for (int left = 3; left >= 0; left--) {
            is("another undo()", full.undo(), left);
            is("its rate", full.rate(20), left + 1);
        }
        is("undo() of what " + call + " dropped", full.undo(), ILLEGAL);
    }

    private static String undoableOf(RampPermits x) {
        return Calls.seasonOf(x) + x.count(5);
    }

    /** Fills an empty history: the rate of week 20 goes from 0 to 5. */
    private static RampPermits fullHistory(RampPermits x) {
        for (int rate = 1; rate <= 5; rate++) {
            x.setRate(20, rate);
        }
        return x;
    }
}
