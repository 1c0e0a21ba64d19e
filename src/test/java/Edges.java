import java.util.NoSuchElementException;
import java.util.function.BiFunction;
import java.util.function.Function;
import java.util.function.Supplier;

/** What the tests of boundary cases share. Each question is put to an object of its own. */
abstract class Edges {
    static final Class<?> RANGE = IndexOutOfBoundsException.class;
    static final Class<?> WRONG = IllegalArgumentException.class;
    static final Class<?> STATE = IllegalStateException.class;
    static final Class<?> ABSENT = NoSuchElementException.class;
    static final Class<?> NOT_DONE = UnsupportedOperationException.class;
    static final Class<?> REFUSED = ArithmeticException.class;
    static final int LEAST = Integer.MIN_VALUE;
    static final int GREATEST = Integer.MAX_VALUE;

    static Expect expect;

    static void answers(String call, Object due, Supplier<EffectCourt> made,
            Function<EffectCourt, Object> asked) {
        EffectCourt x = made.get();
        expect.is(call, due, () -> asked.apply(x));
    }

    /** A refused call is refused again, and leaves the object as one that was never asked. */
    static void refuses(String call, Class<?> due, Supplier<EffectCourt> made,
            Function<EffectCourt, Object> asked) {
        EffectCourt x = made.get();
        expect.is(call, due, () -> asked.apply(x));
        expect.is(call + " again", due, () -> asked.apply(x));
        expect.is("the object after " + call, Picture.of(made.get()), () -> Picture.of(x));
    }

    /**
     * The numbers just below and just above those of the variables, the least and the greatest, and
     * those that a shift would take for 0.
     */
    static void refusesVariables(String call, int size, Supplier<EffectCourt> made,
            BiFunction<EffectCourt, Integer, Object> asked) {
        for (int variable : new int[] {LEAST, -32, -1, size, 32, GREATEST}) {
            refuses(call + " of " + variable, RANGE, made, x -> asked.apply(x, variable));
        }
    }

    /** The set just above all variables, alone and with one that is there, and the odd numbers. */
    static void refusesSets(String call, int size, Supplier<EffectCourt> made,
            BiFunction<EffectCourt, Integer, Object> asked) {
        int above = 1 << size;
        for (int set : new int[] {LEAST, -1, above, above | 1, 2 * above, GREATEST}) {
            refuses(call + " of " + set, WRONG, made, x -> asked.apply(x, set));
        }
    }
}
