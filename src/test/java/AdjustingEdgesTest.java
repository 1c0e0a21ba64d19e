import java.util.function.Supplier;

/** Promises 21 to 26 at their edges. */
final class AdjustingEdgesTest extends Edges {
    private static final int[] NO_VARIABLES = {LEAST, -32, -1, 6, 32, GREATEST};
    private static final Supplier<EffectCourt> SIX = () -> Courts.of(6);
    private static final Supplier<EffectCourt> CHAIN = () -> Courts.chain(6);
    /** 0 leads to 1, and each other one leads to both. */
    private static final Supplier<EffectCourt> FOUR_CAUSES =
            () -> Courts.of(6, 0, 1, 2, 0, 2, 1, 3, 0, 3, 1, 4, 0, 4, 1, 5, 0, 5, 1);
    /** 0 leads to 1, and 2 to 0 and over all others to 1. */
    private static final Supplier<EffectCourt> LONG_WAY_BACK =
            () -> Courts.of(6, 0, 1, 2, 0, 2, 3, 3, 4, 4, 5, 5, 1);
    private static final Supplier<EffectCourt> BOW =
            () -> Courts.hiding(Courts.of(6, 0, 1), 0, 1, 1, 0, 0, 1, 1, 0);

    public static void main(String[] args) {
        expect = new Expect("AdjustingEdgesTest");
        numbers();
        sets();
        fewVariables();
        adjustingByFewAndAll();
        descendants();
        leastSets();
        noLeastSets();
        values();
        adjustedChances();
        frontsOfFewAndAll();
        frontsAndHiddenCauses();
        instrumentNumbers();
        instruments();
        expect.close();
    }

    /** The five calls that take two variables. */
    private static void refusesAll(String name, Class<?> due, Supplier<EffectCourt> made, int from,
            int on) {
        String call = name + ": (" + from + ", " + on + ")";
        refuses("21 " + call, due, made, x -> x.adjusts(from, on, 0));
        refuses("22 " + call, due, made, x -> x.adjustments(from, on));
        refuses("23 " + call, due, made, x -> x.adjustmentAt(from, on, 0));
        refuses("24 " + call, due, made, x -> x.adjusted(from, 0, on));
        refuses("25 " + call, due, made, x -> x.isFront(from, on, 0));
    }

    /** The two calls that take a set as well. */
    private static void refusesBoth(String name, Class<?> due, int from, int on, int set) {
        String call = name + ": (" + from + ", " + on + ", " + set + ")";
        refuses("21 " + call, due, FOUR_CAUSES, x -> x.adjusts(from, on, set));
        refuses("25 " + call, due, FOUR_CAUSES, x -> x.isFront(from, on, set));
    }

    private static void numbers() {
        for (int none : NO_VARIABLES) {
            refusesAll("no such one", RANGE, FOUR_CAUSES, none, 0);
            refusesAll("no such other", RANGE, FOUR_CAUSES, 5, none);
            refusesAll("no such one ahead of the same", RANGE, FOUR_CAUSES, none, none);
            refusesBoth("no such other ahead of the set", RANGE, 0, none, 64);
            refusesBoth("no such other ahead of one in it", RANGE, 0, none, 1);
            refuses("23 no such other ahead of no such set", RANGE, FOUR_CAUSES,
                    x -> x.adjustmentAt(0, none, -1));
            refuses("24 no such other ahead of no value", RANGE, FOUR_CAUSES,
                    x -> x.adjusted(0, 2, none));
            refuses("24 no such one ahead of no value", RANGE, FOUR_CAUSES,
                    x -> x.adjusted(none, -1, 0));
        }
        for (int same = 0; same < 6; same++) {
            refusesAll("both the same", WRONG, FOUR_CAUSES, same, same);
            refusesAll("both the same, with no arrows", WRONG, SIX, same, same);
        }
    }

    private static void sets() {
        for (int set : new int[] {LEAST, -1, 64, 68, 128, GREATEST}) {
            refusesBoth("no such set", WRONG, 0, 1, set);
        }
        refusesBoth("the first one in it", WRONG, 0, 1, 1);
        refusesBoth("the second one in it", WRONG, 0, 1, 2);
        refusesBoth("both in it", WRONG, 0, 1, 3);
        refusesBoth("all in it", WRONG, 0, 1, 63);
        refusesBoth("the first one in it with all others", WRONG, 0, 1, 61);
        refusesBoth("the second one in it with all others", WRONG, 0, 1, 62);
    }

    private static void fewVariables() {
        refusesAll("no variables", RANGE, EffectCourt::new, 0, 0);
        refusesAll("no variables", RANGE, EffectCourt::new, 0, 1);
        refusesAll("one variable", WRONG, () -> Courts.of(1), 0, 0);
        refusesAll("one variable and another one", RANGE, () -> Courts.of(1), 0, 1);
        refusesAll("the third of two", RANGE, () -> Courts.of(2, 0, 1), 2, 0);
        Supplier<EffectCourt> two = () -> Courts.of(2, 0, 1);
        answers("21 two variables", true, two, x -> x.adjusts(0, 1, 0));
        answers("21 two variables against the arrow", false, two, x -> x.adjusts(1, 0, 0));
        least("two variables", two, 0, 1, 0);
        least("two variables against the arrow", two, 1, 0);
        refuses("21 the third one of two in the set", WRONG, two, x -> x.adjusts(0, 1, 4));
        refuses("25 the third one of two in the set", WRONG, two, x -> x.isFront(0, 1, 4));
    }

    private static void adjustingByFewAndAll() {
        for (int others = 0; others < 16; others++) {
            int set = others << 2;
            answers("21 of four causes " + set, set == 60, FOUR_CAUSES,
                    x -> x.adjusts(0, 1, set));
            answers("21 of the long way back " + set, set != 0, LONG_WAY_BACK,
                    x -> x.adjusts(0, 1, set));
            answers("21 of six apart " + set, true, SIX, x -> x.adjusts(0, 1, set));
            answers("21 of the bow " + set, false, BOW, x -> x.adjusts(0, 1, set));
        }
    }

    private static void descendants() {
        Supplier<EffectCourt> beside = () -> Courts.of(6, 0, 1, 0, 2, 2, 3, 3, 4);
        answers("21 nothing", true, beside, x -> x.adjusts(0, 1, 0));
        answers("21 a child beside", false, beside, x -> x.adjusts(0, 1, 0b000100));
        answers("21 a descendant over three arrows", false, beside,
                x -> x.adjusts(0, 1, 0b010000));
        answers("21 one that is none", true, beside, x -> x.adjusts(0, 1, 0b100000));
        answers("21 one that is none and one that is", false, beside,
                x -> x.adjusts(0, 1, 0b110000));
        answers("21 descendants of the second one alone", true, () -> Courts.of(3, 0, 1, 1, 2),
                x -> x.adjusts(1, 2, 0b001));
        answers("21 descendants that are no more", true, () -> {
            EffectCourt court = beside.get();
            court.remove(0, 2);
            return court;
        }, x -> x.adjusts(0, 1, 0b011100));
    }

    /** All least sets in their order, and none ahead of and behind them. */
    private static void least(String name, Supplier<EffectCourt> made, int from, int on,
            int... sets) {
        String call = name + ": (" + from + ", " + on + ")";
        answers("22 " + call, sets.length, made, x -> x.adjustments(from, on));
        for (int index = 0; index < sets.length; index++) {
            int asked = index;
            answers("23 " + call + " at " + index, sets[index], made,
                    x -> x.adjustmentAt(from, on, asked));
        }
        for (int index : new int[] {LEAST, -1, sets.length, sets.length + 1, GREATEST}) {
            refuses("23 " + call + " at " + index, ABSENT, made,
                    x -> x.adjustmentAt(from, on, index));
        }
    }

    private static void leastSets() {
        least("the empty set", CHAIN, 0, 5, 0);
        least("no arrows", SIX, 0, 5, 0);
        least("all others", FOUR_CAUSES, 0, 1, 60);
        least("each other one alone", LONG_WAY_BACK, 0, 1, 4, 8, 16, 32);
        least("the greatest and the least variable", () -> Courts.of(6, 5, 0, 1, 5, 1, 0), 5, 0, 2);
        least("fewer variables first, though the set is greater",
                () -> Courts.of(5, 4, 0, 4, 2, 4, 3, 2, 1, 3, 1, 0, 1), 0, 1, 0b10000, 0b01100);
        least("by rising sets where they are as many",
                () -> Courts.of(6, 0, 1, 2, 0, 2, 3, 3, 1, 4, 0, 4, 5, 5, 1), 0, 1,
                0b010100, 0b011000, 0b100100, 0b101000);
        least("nothing goes ahead of what has it as a part", () -> Courts.of(4, 0, 1, 2, 1, 3, 0),
                0, 1, 0);
    }

    private static void noLeastSets() {
        least("four hidden causes of both", BOW, 0, 1);
        least("against an arrow", CHAIN, 5, 4);
        refuses("24 four hidden causes of both", ABSENT, BOW, x -> x.adjusted(0, 0, 1));
        refuses("24 against an arrow", ABSENT, CHAIN, x -> x.adjusted(5, 1, 4));
        for (int value : new int[] {LEAST, -1, 2, GREATEST}) {
            refuses("24 ahead of no such set: value " + value, WRONG, BOW,
                    x -> x.adjusted(0, value, 1));
        }
        refuses("23 the same ahead of no such set", WRONG, BOW, x -> x.adjustmentAt(0, 0, 0));
        refuses("24 the same ahead of no such set", WRONG, BOW, x -> x.adjusted(1, 0, 1));
    }

    private static void values() {
        for (int value : new int[] {LEAST, -1, 2, 3, GREATEST}) {
            refuses("24 value " + value, WRONG, FOUR_CAUSES, x -> x.adjusted(0, value, 1));
            refuses("24 value " + value + " with no arrows", WRONG, SIX,
                    x -> x.adjusted(5, value, 0));
        }
        for (int value = 0; value < 2; value++) {
            int given = value;
            answers("24 value " + value + " with no arrows", Share.of(1, 3).told(), SIX,
                    x -> x.adjusted(5, given, 0));
        }
    }

    /** In row 1 and 17 of 1 alone, where 0 is 1 and 2, 3 and 4 are 0, it is more likely. */
    private static void adjustedChances() {
        Supplier<EffectCourt> four = () -> Courts.withBits(FOUR_CAUSES.get(), 0x96, 2);
        answers("24 by all others, at 1", Share.of(35, 81).told(), four,
                x -> x.adjusted(0, 1, 1));
        answers("24 by all others, at 0", Share.of(1, 3).told(), four, x -> x.adjusted(0, 0, 1));
        Supplier<EffectCourt> chain = () -> Courts.withBits(Courts.chain(6), 0, 2, 0, 0, 0, 2);
        answers("24 by nothing, at 1", Share.of(2, 3).told(), chain, x -> x.adjusted(0, 1, 1));
        answers("24 by nothing, at 0", Share.of(1, 3).told(), chain, x -> x.adjusted(0, 0, 1));
        answers("24 by nothing, the greatest variable", Share.of(2, 3).told(), chain,
                x -> x.adjusted(4, 1, 5));
    }

    private static void frontsOfFewAndAll() {
        answers("25 nothing where an arrow leads there", false, CHAIN, x -> x.isFront(0, 1, 0));
        answers("25 nothing where arrows lead there", false, CHAIN, x -> x.isFront(0, 5, 0));
        answers("25 nothing where none lead there", true, SIX, x -> x.isFront(0, 5, 0));
        answers("25 nothing against the arrows", true, CHAIN, x -> x.isFront(5, 0, 0));
        answers("25 all others where none lead there", true, SIX, x -> x.isFront(0, 5, 30));
        for (int others = 1; others < 16; others++) {
            int set = others << 1;
            answers("25 of the chain " + set, true, CHAIN, x -> x.isFront(0, 5, set));
        }
        answers("25 all others where an arrow leads past them", false,
                () -> Courts.of(6, 0, 1, 1, 5, 0, 5), x -> x.isFront(0, 5, 30));
        Supplier<EffectCourt> four =
                () -> Courts.of(6, 0, 2, 0, 3, 0, 4, 0, 5, 2, 1, 3, 1, 4, 1, 5, 1);
        for (int others = 0; others < 16; others++) {
            int set = others << 2;
            answers("25 of four ways " + set, set == 60, four, x -> x.isFront(0, 1, set));
        }
    }

    private static void frontsAndHiddenCauses() {
        Supplier<EffectCourt> front =
                () -> Courts.hiding(Courts.of(3, 0, 2, 2, 1), 0, 1, 0, 1, 0, 1);
        answers("25 three hidden causes of both", true, front, x -> x.isFront(0, 1, 4));
        answers("25 a fourth of the first one and the front", false,
                () -> Courts.hiding(front.get(), 0, 2), x -> x.isFront(0, 1, 4));
        answers("25 a fourth of the front and the second one", false,
                () -> Courts.hiding(front.get(), 2, 1), x -> x.isFront(0, 1, 4));
        answers("25 the greatest and the least variable", true,
                () -> Courts.hiding(Courts.of(6, 5, 4, 4, 0), 5, 0), x -> x.isFront(5, 0, 16));
        answers("25 nothing is known, 0 neither", false,
                () -> Courts.of(4, 3, 2, 2, 1, 0, 3, 0, 2), x -> x.isFront(3, 1, 4));
        Supplier<EffectCourt> known = () -> Courts.of(4, 0, 2, 2, 1, 0, 3, 3, 2);
        answers("25 a way back to the first one that it bars", true,
                () -> Courts.of(3, 0, 2, 2, 1), x -> x.isFront(0, 1, 4));
        answers("25 one of two ways to the front", true, known, x -> x.isFront(0, 1, 0b0100));
        answers("25 the other one past which a way leads", false, known,
                x -> x.isFront(0, 1, 0b1000));
        answers("25 no arrows from the whole set at once", true, known,
                x -> x.isFront(0, 1, 0b1100));
    }

    private static void instrumentNumbers() {
        for (int none : NO_VARIABLES) {
            refuses("26 no such first one", RANGE, CHAIN, x -> x.isInstrument(none, 0, 1));
            refuses("26 no such second one", RANGE, CHAIN, x -> x.isInstrument(0, none, 1));
            refuses("26 no such third one", RANGE, CHAIN, x -> x.isInstrument(0, 1, none));
            refuses("26 ahead of the first two the same", RANGE, CHAIN,
                    x -> x.isInstrument(0, 0, none));
            refuses("26 ahead of the last two the same", RANGE, CHAIN,
                    x -> x.isInstrument(none, 5, 5));
            refuses("26 ahead of the outer two the same", RANGE, CHAIN,
                    x -> x.isInstrument(3, none, 3));
            refuses("26 ahead of all the same", RANGE, CHAIN,
                    x -> x.isInstrument(none, none, none));
        }
        for (int same = 0; same < 6; same++) {
            int one = same;
            int other = (same + 1) % 6;
            refuses("26 the first two are " + one, WRONG, CHAIN,
                    x -> x.isInstrument(one, one, other));
            refuses("26 the last two are " + one, WRONG, CHAIN,
                    x -> x.isInstrument(other, one, one));
            refuses("26 the outer two are " + one, WRONG, CHAIN,
                    x -> x.isInstrument(one, other, one));
            refuses("26 all are " + one, WRONG, CHAIN, x -> x.isInstrument(one, one, one));
        }
        refuses("26 no variables", RANGE, EffectCourt::new, x -> x.isInstrument(0, 0, 0));
        refuses("26 one variable", WRONG, () -> Courts.of(1), x -> x.isInstrument(0, 0, 0));
        refuses("26 two variables", WRONG, () -> Courts.of(2, 0, 1),
                x -> x.isInstrument(0, 1, 1));
        refuses("26 the third of two", RANGE, () -> Courts.of(2, 0, 1),
                x -> x.isInstrument(0, 1, 2));
    }

    private static void instruments() {
        answers("26 no arrows", false, SIX, x -> x.isInstrument(0, 1, 2));
        answers("26 of the chain, the ends", true, CHAIN, x -> x.isInstrument(0, 4, 5));
        answers("26 of the chain, far behind", false, CHAIN, x -> x.isInstrument(0, 5, 4));
        answers("26 all arrows", false, () -> Courts.all(6), x -> x.isInstrument(0, 1, 5));
        answers("26 the third one is apart", true, () -> Courts.of(3, 0, 1),
                x -> x.isInstrument(0, 1, 2));
        answers("26 a hidden cause of the last two", true,
                () -> Courts.hiding(Courts.of(3, 0, 1, 1, 2), 1, 2, 1, 2, 1, 2, 1, 2),
                x -> x.isInstrument(0, 1, 2));
        answers("26 joined to the second one by hidden causes alone", true,
                () -> Courts.hiding(Courts.of(3, 1, 2), 0, 1, 0, 1), x -> x.isInstrument(0, 1, 2));
        answers("26 nothing is known, 0 on the way neither", true,
                () -> Courts.of(4, 3, 0, 0, 1, 1, 2), x -> x.isInstrument(3, 1, 2));
        answers("26 nothing is known, 0 that is met neither", true,
                () -> Courts.of(4, 3, 1, 1, 2, 3, 0, 2, 0), x -> x.isInstrument(3, 1, 2));
        answers("26 joined to the third one by a hidden cause", false,
                () -> Courts.hiding(Courts.of(3, 0, 1, 1, 2), 0, 2),
                x -> x.isInstrument(0, 1, 2));
    }
}
