import java.util.NoSuchElementException;

/** Promises 21 to 26: sets that adjust, fronts and instruments. */
final class AdjustingTest {
    private static final Class<?> RANGE = IndexOutOfBoundsException.class;
    private static final Class<?> WRONG = IllegalArgumentException.class;
    private static final Class<?> ABSENT = NoSuchElementException.class;

    private static Expect expect;

    public static void main(String[] args) {
        expect = new Expect("AdjustingTest");
        adjusting();
        leastSets();
        noSets();
        reckoning();
        fronts();
        instruments();
        wrongSets();
        wrongPairs();
        expect.close();
    }

    /** 0 leads to 1 over 3; 2 leads to 0 and 1; 4 comes of 0 and 5 comes of nothing. */
    private static void adjusting() {
        EffectCourt x = Courts.of(6, 0, 3, 3, 1, 2, 0, 2, 1, 0, 4);
        expect.is("21 the common cause", true, () -> x.adjusts(0, 1, 0b000100));
        expect.is("21 nothing", false, () -> x.adjusts(0, 1, 0));
        expect.is("21 with one too many", true, () -> x.adjusts(0, 1, 0b100100));
        expect.is("21 with a descendant on the way", false, () -> x.adjusts(0, 1, 0b001100));
        expect.is("21 with a descendant beside", false, () -> x.adjusts(0, 1, 0b010100));
        expect.is("21 the wrong one", false, () -> x.adjusts(0, 1, 0b100000));
        expect.is("21 against the arrows", false, () -> x.adjusts(1, 0, 0b000100));
        expect.is("21 against the arrows with the way barred", true,
                () -> x.adjusts(1, 0, 0b001100));
        EffectCourt butterfly = Courts.of(5, 3, 0, 4, 1, 3, 2, 4, 2, 0, 1);
        expect.is("21 nothing is met", true, () -> butterfly.adjusts(0, 1, 0));
        expect.is("21 what is met opens", false, () -> butterfly.adjusts(0, 1, 0b00100));
        expect.is("21 opened and barred", true, () -> butterfly.adjusts(0, 1, 0b01100));
    }

    private static void sets(String name, EffectCourt x, int from, int on, int... sets) {
        String call = "(" + from + ", " + on + ") of " + name;
        expect.is("22 adjustments" + call, sets.length, () -> x.adjustments(from, on));
        for (int index = 0; index < sets.length; index++) {
            int asked = index;
            expect.is("23 adjustmentAt " + index + " " + call, sets[index],
                    () -> x.adjustmentAt(from, on, asked));
        }
        int[] none = {-1, sets.length, Integer.MAX_VALUE, Integer.MIN_VALUE};
        for (int index : none) {
            expect.is("23 adjustmentAt " + index + " " + call, ABSENT,
                    () -> x.adjustmentAt(from, on, index));
        }
    }

    private static void leastSets() {
        EffectCourt chain = Courts.of(5, 2, 0, 2, 3, 3, 4, 4, 1, 0, 1);
        sets("one back way", chain, 0, 1, 0b00100, 0b01000, 0b10000);
        EffectCourt two = Courts.of(6, 2, 0, 2, 3, 3, 1, 4, 0, 4, 5, 5, 1);
        sets("two back ways", two, 0, 1, 0b010100, 0b011000, 0b100100, 0b101000);
        EffectCourt sizes = Courts.of(6, 5, 0, 5, 2, 5, 3, 2, 1, 3, 1, 0, 1);
        sets("fewer variables go first", sizes, 0, 1, 0b100000, 0b001100);
        EffectCourt butterfly = Courts.of(5, 3, 0, 4, 1, 3, 2, 4, 2, 0, 1);
        sets("the empty set", butterfly, 0, 1, 0);
        EffectCourt both = Courts.of(5, 3, 0, 4, 1, 3, 2, 4, 2, 2, 0, 2, 1, 0, 1);
        sets("the middle and one more", both, 0, 1, 0b01100, 0b10100);
        EffectCourt unjoined = Courts.of(2);
        sets("two apart", unjoined, 1, 0, 0);
        EffectCourt fresh = Courts.of(4, 2, 0, 2, 1, 3, 1, 0, 1);
        expect.is("23 adjustmentAt ahead of all other calls", 0b0100,
                () -> fresh.adjustmentAt(0, 1, 0));
        expect.is("23 adjustmentAt of another pair", 0, () -> fresh.adjustmentAt(2, 3, 0));
    }

    private static void noSets() {
        EffectCourt bow = Courts.of(3, 0, 1, 2, 0, 2, 1);
        bow.hide(0, 1);
        sets("the bow", bow, 0, 1);
        expect.is("24 adjusted of the bow", ABSENT, () -> bow.adjusted(0, 1, 1));
        sets("against an arrow", bow, 1, 2);
        expect.is("24 adjusted against an arrow", ABSENT, () -> bow.adjusted(1, 0, 2));
        expect.is("24 adjusted with no value goes ahead of no set", WRONG,
                () -> bow.adjusted(1, 2, 2));
    }

    private static void reckoning() {
        EffectCourt x = Courts.of(3, 0, 2, 1, 0, 1, 2);
        x.setBits(0, 0b10);
        x.setBits(2, 0b1000);
        expect.is("24 adjusted(0, 1, 2)", Share.of(4, 9).told(), () -> x.adjusted(0, 1, 2));
        expect.is("24 adjusted(0, 0, 2)", Share.of(1, 3).told(), () -> x.adjusted(0, 0, 2));
        expect.is("24 adjusted(1, 1, 0)", Share.of(2, 3).told(), () -> x.adjusted(1, 1, 0));
        expect.is("24 adjusted(1, 1, 2) by nothing", x.trueEffect(2, 2, 4, 4),
                () -> x.adjusted(1, 1, 2));
        expect.is("24 adjusted(0, -1, 2)", WRONG, () -> x.adjusted(0, -1, 2));
        expect.is("24 adjusted(0, 2, 2)", WRONG, () -> x.adjusted(0, 2, 2));
        EffectCourt y = Courts.of(6, 2, 0, 2, 3, 3, 1, 4, 0, 4, 5, 5, 1, 0, 1);
        y.setBits(0, 0b1001);
        y.setBits(3, 0b10);
        y.setBits(5, 0b01);
        y.setBits(1, 0b10010110);
        for (int value = 0; value < 2; value++) {
            int given = value;
            expect.is("24 adjusted(0, " + value + ", 1) by two", y.trueEffect(1, value, 2, 2),
                    () -> y.adjusted(0, given, 1));
        }
    }

    private static void fronts() {
        EffectCourt x = Courts.of(5, 0, 2, 2, 1, 0, 3, 3, 1);
        x.hide(0, 1);
        expect.is("25 one way of two", false, () -> x.isFront(0, 1, 0b00100));
        expect.is("25 both ways", true, () -> x.isFront(0, 1, 0b01100));
        expect.is("25 nothing", false, () -> x.isFront(0, 1, 0));
        expect.is("25 with one that is apart", true, () -> x.isFront(0, 1, 0b11100));
        expect.is("25 no way to go: nothing is a front", true, () -> x.isFront(1, 0, 0));
        expect.is("25 no way to go, but not separated", false, () -> x.isFront(1, 0, 0b00100));
        x.hide(0, 3);
        expect.is("25 a hidden cause of the first one and one of it", false,
                () -> x.isFront(0, 1, 0b01100));
        EffectCourt y = Courts.of(4, 0, 2, 2, 1);
        y.hide(2, 1);
        expect.is("25 a hidden cause of one of it and the second one", false,
                () -> y.isFront(0, 1, 0b0100));
        EffectCourt z = Courts.of(4, 0, 2, 2, 1, 0, 1);
        expect.is("25 an arrow past it", false, () -> z.isFront(0, 1, 0b0100));
        EffectCourt chain = Courts.of(4, 0, 2, 2, 3, 3, 1);
        expect.is("25 the first of two on the way", true, () -> chain.isFront(0, 1, 0b0100));
        expect.is("25 the second of two on the way", true, () -> chain.isFront(0, 1, 0b1000));
        expect.is("25 two on one way: no arrows from either", true,
                () -> chain.isFront(0, 1, 0b1100));
        EffectCourt back = Courts.of(4, 0, 2, 2, 1, 3, 0, 3, 1);
        expect.is("25 a common cause of both", true, () -> back.isFront(0, 1, 0b0100));
        expect.is("25 with the common cause", false, () -> back.isFront(0, 1, 0b1100));
        EffectCourt known = Courts.of(3, 0, 2, 0, 1);
        expect.is("25 way past, but separated", false, () -> known.isFront(0, 1, 0b100));
        EffectCourt open = Courts.of(3, 2, 1);
        open.hide(0, 2);
        expect.is("25 a hidden cause of the first one and it", false,
                () -> open.isFront(0, 1, 0b100));
    }

    private static void instruments() {
        EffectCourt x = Courts.of(5, 0, 1, 1, 2);
        x.hide(1, 2);
        x.hide(3, 1);
        expect.is("26 an arrow to the first", true, () -> x.isInstrument(0, 1, 2));
        expect.is("26 a descendant of the first is one too", true, () -> x.isInstrument(2, 1, 0));
        expect.is("26 a hidden cause with the first", true, () -> x.isInstrument(3, 1, 2));
        expect.is("26 one that is apart", false, () -> x.isInstrument(4, 1, 2));
        x.arrow(0, 2);
        expect.is("26 an arrow past the first", false, () -> x.isInstrument(0, 1, 2));
        x.remove(0, 2);
        x.hide(0, 2);
        expect.is("26 a hidden cause with the third", false, () -> x.isInstrument(0, 1, 2));
        EffectCourt y = Courts.of(4, 0, 1, 3, 0, 3, 2, 1, 2);
        expect.is("26 a common cause with the third", false, () -> y.isInstrument(0, 1, 2));
    }

    private static void wrongSets() {
        EffectCourt x = Courts.of(3, 0, 1);
        int[][] outside = {{-1, 0, 0}, {3, 0, 0}, {0, 3, 0}, {0, -1, 0}, {3, 3, 8}};
        for (int[] each : outside) {
            wrongSet(x, each, RANGE);
        }
        int[][] impossible = {{1, 1, 0}, {0, 2, 8}, {0, 2, -1}, {0, 2, 1}, {0, 2, 4}, {0, 2, 7}};
        for (int[] each : impossible) {
            wrongSet(x, each, WRONG);
        }
    }

    private static void wrongSet(EffectCourt x, int[] of, Class<?> due) {
        String call = of[0] + ", " + of[1] + ", " + of[2];
        expect.is("21 adjusts " + call, due, () -> x.adjusts(of[0], of[1], of[2]));
        expect.is("25 isFront " + call, due, () -> x.isFront(of[0], of[1], of[2]));
    }

    private static void wrongPairs() {
        EffectCourt x = Courts.of(3, 0, 1);
        int[][] outside = {{-1, 0}, {3, 0}, {0, 3}, {0, -1}, {3, 3}};
        for (int[] each : outside) {
            wrongPair(x, each[0], each[1], RANGE);
        }
        wrongPair(x, 0, 0, WRONG);
        wrongPair(x, 2, 2, WRONG);
        int[][] triples = {{3, 0, 1}, {0, 3, 1}, {0, 1, 3}, {-1, 0, 1}, {0, -1, 1}, {0, 1, -1},
            {0, 0, 3}, {3, 1, 1}};
        for (int[] of : triples) {
            expect.is("26 isInstrument " + of[0] + ", " + of[1] + ", " + of[2], RANGE,
                    () -> x.isInstrument(of[0], of[1], of[2]));
        }
        int[][] alike = {{0, 0, 1}, {0, 1, 0}, {1, 0, 0}, {2, 2, 2}};
        for (int[] of : alike) {
            expect.is("26 isInstrument " + of[0] + ", " + of[1] + ", " + of[2], WRONG,
                    () -> x.isInstrument(of[0], of[1], of[2]));
        }
    }

    private static void wrongPair(EffectCourt x, int from, int on, Class<?> due) {
        String call = from + ", " + on;
        expect.is("22 adjustments " + call, due, () -> x.adjustments(from, on));
        expect.is("23 adjustmentAt " + call, due, () -> x.adjustmentAt(from, on, 99));
        expect.is("24 adjusted " + call, due, () -> x.adjusted(from, 2, on));
    }
}
