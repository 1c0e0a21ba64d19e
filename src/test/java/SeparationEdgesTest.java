import java.util.function.Supplier;

/** Promises 9 to 11 at their edges. */
final class SeparationEdgesTest extends Edges {
    private static final Supplier<EffectCourt> SIX = () -> Courts.of(6);
    private static final Supplier<EffectCourt> CHAIN = () -> Courts.chain(6);
    private static final Supplier<EffectCourt> ALL_FIFTEEN = () -> Courts.all(6);
    private static final Supplier<EffectCourt> HIDDEN_CHAIN =
            () -> Courts.hiding(Courts.of(6), 0, 1, 1, 2, 2, 3, 3, 4);

    public static void main(String[] args) {
        expect = new Expect("SeparationEdgesTest");
        numbers();
        sets();
        orderOfExceptions();
        fewVariables();
        noArrowsAndAll();
        longestPaths();
        whatIsMet();
        whatIsNotMet();
        fewestSteps();
        firstVariables();
        waysOfTwo();
        expect.close();
    }

    /** Asks all three calls; without steps the two are separated. */
    private static void told(String name, Supplier<EffectCourt> made, int one, int other, int set,
            int... steps) {
        String call = name + ": (" + one + ", " + other + ", " + set + ")";
        answers("9 " + call, steps.length == 0, made, x -> x.areSeparated(one, other, set));
        if (steps.length == 0) {
            refuses("10 " + call, ABSENT, made, x -> x.pathLength(one, other, set));
        } else {
            answers("10 " + call, steps.length, made, x -> x.pathLength(one, other, set));
        }
        for (int index = 0; index < steps.length; index++) {
            int asked = index;
            answers("11 " + call + " at " + index, steps[index], made,
                    x -> x.pathAt(one, other, set, asked));
        }
        for (int index : new int[] {LEAST, -1, steps.length, GREATEST}) {
            refuses("11 " + call + " at " + index, ABSENT, made,
                    x -> x.pathAt(one, other, set, index));
        }
    }

    private static void refusesAll(String name, Class<?> due, Supplier<EffectCourt> made, int one,
            int other, int set) {
        String call = name + ": (" + one + ", " + other + ", " + set + ")";
        refuses("9 " + call, due, made, x -> x.areSeparated(one, other, set));
        refuses("10 " + call, due, made, x -> x.pathLength(one, other, set));
        refuses("11 " + call, due, made, x -> x.pathAt(one, other, set, 0));
    }

    private static void numbers() {
        for (int none : new int[] {LEAST, -32, -1, 6, 32, GREATEST}) {
            refusesAll("no such one", RANGE, ALL_FIFTEEN, none, 0, 0);
            refusesAll("no such other", RANGE, ALL_FIFTEEN, 5, none, 0);
        }
        told("the least and the greatest variable", ALL_FIFTEEN, 0, 5, 0, 50);
        told("the greatest and the least variable", ALL_FIFTEEN, 5, 0, 0, 1);
        refusesAll("the third of two", RANGE, () -> Courts.of(2, 0, 1), 0, 2, 0);
        for (int same = 0; same < 6; same++) {
            refusesAll("both the same", WRONG, ALL_FIFTEEN, same, same, 0);
        }
    }

    private static void sets() {
        for (int set : new int[] {LEAST, -1, 64, 65, 128, GREATEST}) {
            refusesAll("no such set", WRONG, ALL_FIFTEEN, 2, 3, set);
        }
        refusesAll("the first one in it", WRONG, ALL_FIFTEEN, 2, 3, 0b000100);
        refusesAll("the second one in it", WRONG, ALL_FIFTEEN, 2, 3, 0b001000);
        refusesAll("both in it", WRONG, ALL_FIFTEEN, 2, 3, 0b001100);
        refusesAll("all in it", WRONG, ALL_FIFTEEN, 2, 3, 63);
        told("all others", ALL_FIFTEEN, 2, 3, 0b110011, 30);
        refusesAll("a set of one more than there are", WRONG, () -> Courts.chain(3), 0, 1, 8);
        told("a set of the last one", () -> Courts.chain(3), 0, 1, 4, 10);
    }

    private static void orderOfExceptions() {
        refusesAll("no such one ahead of the same", RANGE, ALL_FIFTEEN, 6, 6, 0);
        refusesAll("no such one ahead of the set", RANGE, ALL_FIFTEEN, 6, 0, 64);
        refusesAll("no such other ahead of the set", RANGE, ALL_FIFTEEN, 0, 6, -1);
        refusesAll("no such other ahead of one in the set", RANGE, ALL_FIFTEEN, 0, -1, 1);
        refuses("11 no such one ahead of no such step", RANGE, SIX, x -> x.pathAt(6, 0, 0, -1));
        refusesAll("the same ahead of separated", WRONG, SIX, 0, 0, 0);
        refusesAll("the set ahead of separated", WRONG, SIX, 0, 1, 64);
        refusesAll("one in the set ahead of separated", WRONG, SIX, 0, 1, 1);
        refuses("11 the same ahead of no such step", WRONG, ALL_FIFTEEN, x -> x.pathAt(0, 0, 0, 9));
        refuses("11 the set ahead of no such step", WRONG, ALL_FIFTEEN,
                x -> x.pathAt(0, 1, 64, -1));
        refuses("11 one in the set ahead of no such step", WRONG, ALL_FIFTEEN,
                x -> x.pathAt(0, 1, 2, GREATEST));
    }

    private static void fewVariables() {
        refusesAll("none", RANGE, EffectCourt::new, 0, 0, 0);
        refusesAll("one", WRONG, () -> Courts.of(1), 0, 0, 0);
        refusesAll("one and none", RANGE, () -> Courts.of(1), 0, 1, 0);
        told("two apart", () -> Courts.of(2), 0, 1, 0);
        told("two joined", () -> Courts.of(2, 1, 0), 0, 1, 0, 11);
        told("two with a hidden cause", () -> Courts.hiding(Courts.of(2), 0, 1), 0, 1, 0, 12);
    }

    /** A path of one step has nothing in its midst, so that no set bars it. */
    private static void noArrowsAndAll() {
        for (int others = 0; others < 64; others++) {
            int set = others & 0b011110;
            answers("9 no arrows, " + set, true, SIX, x -> x.areSeparated(0, 5, set));
            answers("9 all arrows, " + set, false, ALL_FIFTEEN, x -> x.areSeparated(0, 5, set));
            answers("10 all arrows, " + set, 1, ALL_FIFTEEN, x -> x.pathLength(5, 0, set));
        }
        told("no arrows", SIX, 0, 5, 0);
        told("no arrows, all others", SIX, 5, 0, 0b011110);
        told("all arrows, all others", ALL_FIFTEEN, 0, 5, 0b011110, 50);
        told("all hidden causes, but no way there", HIDDEN_CHAIN, 0, 5, 0b011110);
    }

    private static void longestPaths() {
        told("five arrows forward", CHAIN, 0, 5, 0, 10, 20, 30, 40, 50);
        told("five arrows back", CHAIN, 5, 0, 0, 41, 31, 21, 11, 1);
        for (int midst = 1; midst < 5; midst++) {
            told("barred at " + midst, CHAIN, 0, 5, 1 << midst);
        }
        told("barred all over", CHAIN, 0, 5, 0b011110);
        told("four hidden causes, all met", HIDDEN_CHAIN, 0, 4, 0b001110, 12, 23, 34, 45);
        told("four hidden causes back", HIDDEN_CHAIN, 4, 0, 0b001110, 35, 24, 13, 2);
        told("four hidden causes, none met", HIDDEN_CHAIN, 0, 4, 0);
        told("four hidden causes, one too few", HIDDEN_CHAIN, 0, 4, 0b001010);
        told("arrows that meet by turns", () -> Courts.of(6, 0, 1, 2, 1, 2, 3, 4, 3, 4, 5), 0, 5,
                0b001010, 10, 21, 30, 41, 50);
        told("the same barred where it is not met",
                () -> Courts.of(6, 0, 1, 2, 1, 2, 3, 4, 3, 4, 5), 0, 5, 0b001110);
    }

    /** A variable that is met lets the path through if it or what comes of it is in the set. */
    private static void whatIsMet() {
        Supplier<EffectCourt> met = () -> Courts.of(6, 0, 2, 1, 2, 2, 3, 3, 4, 4, 5);
        told("met, nothing known", met, 0, 1, 0);
        told("met, itself known", met, 0, 1, 0b000100, 20, 11);
        told("met, known over one arrow", met, 0, 1, 0b001000, 20, 11);
        told("met, known over three arrows", met, 0, 1, 0b100000, 20, 11);
        told("met, all known", met, 0, 1, 0b111100, 20, 11);
        Supplier<EffectCourt> parent = () -> Courts.of(4, 0, 2, 1, 2, 3, 2);
        told("met, only a parent of it known", parent, 0, 1, 0b1000);
        Supplier<EffectCourt> mixed = () -> Courts.hiding(Courts.of(4, 0, 2), 2, 1, 2, 3);
        told("met by an arrow and a hidden cause", mixed, 0, 1, 0b0100, 20, 12);
        told("a hidden cause with what is known is no arrow there", mixed, 0, 1, 0b1000);
        Supplier<EffectCourt> ends = () -> Courts.of(3, 0, 1, 2, 0, 2, 1);
        told("the ends are not in the midst", ends, 0, 1, 0b100, 10);
    }

    private static void whatIsNotMet() {
        told("a chain's midst known", () -> Courts.of(3, 0, 2, 2, 1), 0, 1, 0b100);
        told("a common cause known", () -> Courts.of(3, 2, 0, 2, 1), 0, 1, 0b100);
        told("a common cause, nothing known", () -> Courts.of(3, 2, 0, 2, 1), 0, 1, 0, 21, 10);
        told("what comes of a chain's midst known", () -> Courts.of(4, 0, 2, 2, 1, 2, 3), 0, 1,
                0b1000, 20, 10);
        Supplier<EffectCourt> tail = () -> Courts.hiding(Courts.of(3, 2, 1), 0, 2);
        told("a hidden cause, then an arrow on", tail, 0, 1, 0, 22, 10);
        told("a hidden cause, then an arrow on, known", tail, 0, 1, 0b100);
    }

    private static void fewestSteps() {
        Supplier<EffectCourt> detour = () -> Courts.of(6, 0, 1, 1, 2, 2, 5, 0, 4, 4, 5);
        told("fewer steps ahead of lower variables", detour, 0, 5, 0, 40, 50);
        told("and lower ones where those are barred", detour, 0, 5, 0b010000, 10, 20, 50);
        told("one step by a hidden cause ahead of two arrows",
                () -> Courts.hiding(Courts.of(3, 0, 1, 1, 2), 0, 2), 0, 2, 0, 22);
    }

    private static void firstVariables() {
        Supplier<EffectCourt> twoWays = () -> Courts.of(6, 0, 1, 1, 4, 4, 5, 0, 2, 2, 3, 3, 5);
        told("the first difference counts, not the next", twoWays, 0, 5, 0, 10, 40, 50);
        told("from the other end it lies elsewhere", twoWays, 5, 0, 0, 31, 21, 1);
        told("the lower variable by hidden causes ahead of a higher one by arrows",
                () -> Courts.hiding(Courts.of(4, 0, 2, 2, 3, 1, 3), 0, 1), 0, 3, 0, 12, 30);
    }

    private static void waysOfTwo() {
        Supplier<EffectCourt> forward = () -> Courts.hiding(Courts.of(2, 0, 1), 0, 1, 0, 1);
        told("an arrow forward ahead of hidden causes", forward, 0, 1, 0, 10);
        told("an arrow back ahead of hidden causes", forward, 1, 0, 0, 1);
        told("the lowest of four", () -> Courts.hiding(Courts.of(2), 0, 1, 0, 1, 1, 0, 1, 0), 1, 0,
                0, 2);
        told("the last one", () -> Courts.hiding(Courts.of(4), 0, 1, 0, 1, 0, 1, 2, 3), 2, 3, 0,
                35);
        Supplier<EffectCourt> both =
                () -> Courts.hiding(Courts.of(3, 2, 0, 2, 1), 2, 1, 0, 2, 0, 2);
        told("arrows where they make an open path", both, 0, 1, 0, 21, 10);
        told("hidden causes where only they do, the lowest", both, 0, 1, 0b100, 23, 12);
        Supplier<EffectCourt> half = () -> Courts.hiding(Courts.of(3, 0, 2, 2, 1), 2, 1, 0, 2);
        told("the arrow at the first step, a hidden cause where it must be", half, 0, 1, 0b100,
                20, 12);
        told("from the other end: a hidden cause first, then the arrow", half, 1, 0, 0b100, 22, 1);
    }
}
