/** Promises 16 to 20: the world's table. */
final class WorldTest {
    private static final Class<?> RANGE = IndexOutOfBoundsException.class;
    private static final Class<?> WRONG = IllegalArgumentException.class;

    private static Expect expect;

    public static void main(String[] args) {
        expect = new Expect("WorldTest");
        bits();
        rowCounts();
        fractions();
        rowNumbers();
        rowsBeyondTheBits();
        conditions();
        independence();
        afterChanges();
        wrongInputs();
        expect.close();
    }

    private static void bits() {
        EffectCourt x = Courts.of(2, 0, 1);
        expect.is("16 setBits(0, 65535)", 0, () -> x.setBits(0, 65535));
        expect.is("16 setBits(0, 0)", 65535, () -> x.setBits(0, 0));
        expect.is("16 setBits(0, 32768)", 0, () -> x.setBits(0, 32768));
        expect.is("16 setBits(0, -1)", WRONG, () -> x.setBits(0, -1));
        expect.is("16 setBits(0, 65536)", WRONG, () -> x.setBits(0, 65536));
        expect.is("16 setBits(0, MAX)", WRONG, () -> x.setBits(0, Integer.MAX_VALUE));
        expect.is("16 setBits(2, -1): no such one goes first", RANGE, () -> x.setBits(2, -1));
        expect.is("16 setBits(-1, 0)", RANGE, () -> x.setBits(-1, 0));
        expect.is("16 setBits(0, 1) after what threw", 32768, () -> x.setBits(0, 1));
        expect.is("16 setBits(1, 1)", 0, () -> x.setBits(1, 1));
        x.remove(0, 1);
        x.arrow(1, 0);
        x.hide(0, 1);
        x.variable();
        expect.is("16 setBits(0, 2): bits stay when the graph changes", 1, () -> x.setBits(0, 2));
        expect.is("16 setBits(1, 2)", 1, () -> x.setBits(1, 2));
        expect.is("16 setBits(2, 2)", 0, () -> x.setBits(2, 2));
    }

    private static void rowCounts() {
        EffectCourt x = Courts.of(6, 0, 5, 1, 5, 2, 5, 3, 5, 4, 5);
        expect.is("17 rows(0)", 1, () -> x.rows(0));
        expect.is("17 rows(5)", 32, () -> x.rows(5));
        x.hide(5, 0);
        x.hide(1, 5);
        x.hide(5, 0);
        x.hide(5, 2);
        expect.is("17 rows(0) with two hidden causes", 4, () -> x.rows(0));
        expect.is("17 rows(5) with four", 512, () -> x.rows(5));
        expect.is("17 rows(4)", 1, () -> x.rows(4));
        x.remove(0, 5);
        expect.is("17 rows(5) with an arrow less", 256, () -> x.rows(5));
        expect.is("17 rows(6)", RANGE, () -> x.rows(6));
        expect.is("17 rows(-1)", RANGE, () -> x.rows(-1));
    }

    private static void fractions() {
        EffectCourt x = Courts.of(1);
        expect.is("18 one third", 666669, () -> x.chance(1, 1));
        expect.is("18 two thirds", 333335, () -> x.chance(1, 0));
        x.setBits(0, 1);
        expect.is("18 two thirds with the bit", 333335, () -> x.chance(1, 1));
        x.setBits(0, 65534);
        expect.is("18 only the first place counts", 666669, () -> x.chance(1, 1));
        expect.is("18 nothing asked", 1, () -> x.chance(0, 0));
        expect.is("18 values that it has not", WRONG, () -> x.chance(0, 1));
        x.variable();
        expect.is("18 a new variable is in the table", Share.of(1, 9).told(),
                () -> x.chance(3, 3));
    }

    /** 2 has the parents 0 and 1 and the hidden causes 1 and 2: places 1, 2, 4 and 8. */
    private static void rowNumbers() {
        EffectCourt x = Courts.of(4, 0, 2, 1, 2);
        x.hide(0, 1);
        x.hide(2, 3);
        x.hide(0, 2);
        x.setBits(2, 0b10);
        expect.is("18 row 1 by the first parent", Share.of(5, 12).told(),
                () -> x.chanceIf(4, 4, 3, 1));
        expect.is("18 row 1 not by the second one", Share.of(1, 3).told(),
                () -> x.chanceIf(4, 4, 3, 2));
        x.setBits(2, 1 << 2 | 1 << 6 | 1 << 10 | 1 << 14);
        expect.is("18 row 2 by the second parent", Share.of(2, 3).told(),
                () -> x.chanceIf(4, 4, 3, 2));
        x.setBits(2, 0b1111000011110000);
        x.setBits(3, 0b10);
        expect.is("18 row 4 by the hidden cause with 3", Share.of(5, 9).told(),
                () -> x.chanceIf(4, 4, 8, 8));
        expect.is("18 and not by that with 0", Share.of(1, 2).told(),
                () -> x.chanceIf(4, 4, 1, 1));
        x.setBits(2, 0b1111111100000000);
        x.setBits(0, 0b1100);
        expect.is("18 row 8 by the hidden cause with 0", Share.of(5, 9).told(),
                () -> x.chanceIf(4, 4, 1, 1));
        expect.is("18 and not by that with 3", Share.of(1, 2).told(),
                () -> x.chanceIf(4, 4, 8, 8));
    }

    /** With five parents there are rows 16 to 31, which take the places 0 to 15 again. */
    private static void rowsBeyondTheBits() {
        EffectCourt x = Courts.of(6, 0, 5, 1, 5, 2, 5, 3, 5, 4, 5);
        x.setBits(5, 0b1001);
        expect.is("18 row 0", Share.of(2, 3).told(), () -> x.chanceIf(32, 32, 31, 0));
        expect.is("18 row 16", Share.of(2, 3).told(), () -> x.chanceIf(32, 32, 31, 16));
        expect.is("18 row 19", Share.of(2, 3).told(), () -> x.chanceIf(32, 32, 31, 19));
        expect.is("18 row 17", Share.of(1, 3).told(), () -> x.chanceIf(32, 32, 31, 17));
        x.setBits(5, 32768);
        expect.is("18 row 15", Share.of(2, 3).told(), () -> x.chanceIf(32, 32, 31, 15));
        expect.is("18 row 31", Share.of(2, 3).told(), () -> x.chanceIf(32, 32, 31, 31));
        expect.is("18 row 30", Share.of(1, 3).told(), () -> x.chanceIf(32, 32, 31, 30));
    }

    private static void conditions() {
        EffectCourt x = Courts.of(3, 0, 1, 1, 2);
        x.setBits(1, 0b10);
        expect.is("19 chanceIf(2, 2, 1, 1)", Share.of(2, 3).told(), () -> x.chanceIf(2, 2, 1, 1));
        expect.is("19 chanceIf(1, 1, 2, 2)", Share.of(1, 2).told(), () -> x.chanceIf(1, 1, 2, 2));
        expect.is("19 chanceIf(1, 1, 0, 0)", Share.of(1, 3).told(), () -> x.chanceIf(1, 1, 0, 0));
        expect.is("19 chanceIf(0, 0, 7, 5)", 1, () -> x.chanceIf(0, 0, 7, 5));
        expect.is("19 chanceIf(0, 0, 0, 0)", 1, () -> x.chanceIf(0, 0, 0, 0));
        expect.is("19 chanceIf(6, 4, 1, 1)", Share.of(1, 9).told(), () -> x.chanceIf(6, 4, 1, 1));
    }

    private static void independence() {
        EffectCourt x = Courts.of(3, 0, 2, 1, 2);
        x.setBits(2, 0b1000);
        expect.is("20 two causes", true, () -> x.areIndependent(0, 1, 0));
        expect.is("20 two causes if what they meet in is known", false,
                () -> x.areIndependent(0, 1, 4));
        expect.is("20 cause and effect", false, () -> x.areIndependent(0, 2, 0));
        expect.is("20 cause and effect, the other cause known", false,
                () -> x.areIndependent(2, 0, 2));
        x.setBits(2, 0b1010);
        expect.is("20 joined, but without weight", true, () -> x.areIndependent(1, 2, 0));
        x.setBits(2, 0);
        expect.is("20 all bits alike", true, () -> x.areIndependent(0, 2, 2));
        EffectCourt y = Courts.of(3, 0, 2);
        y.hide(1, 2);
        y.setBits(1, 0b10);
        y.setBits(2, 0b1000);
        expect.is("20 one value of the set is enough to bar", false,
                () -> y.areIndependent(1, 2, 1));
        y.setBits(2, 0b0001);
        expect.is("20 and so is the other one", false, () -> y.areIndependent(1, 2, 1));
        y.setBits(2, 0b1100);
        expect.is("20 by the hidden cause", false, () -> y.areIndependent(1, 2, 0));
        y.setBits(1, 0);
        expect.is("20 the hidden cause without weight at one end", true,
                () -> y.areIndependent(1, 2, 0));
    }

    /** The table is asked for between all changes, so that none of them may leave it behind. */
    private static void afterChanges() {
        EffectCourt x = Courts.of(1);
        expect.is("18 one variable", Share.of(1, 3).told(), () -> x.chance(1, 1));
        x.setBits(0, 0b10);
        expect.is("18 bits of a row that is not", Share.of(1, 3).told(), () -> x.chance(1, 1));
        x.variable();
        expect.is("18 another one", Share.of(1, 3).told(), () -> x.chance(3, 2) == x.chance(3, 1)
                ? x.chance(2, 2) : -1);
        x.arrow(1, 0);
        expect.is("18 an arrow", Share.of(4, 9).told(), () -> x.chance(1, 1));
        expect.is("15 an arrow", Share.of(2, 3).told(), () -> x.trueEffect(2, 2, 1, 1));
        expect.is("14 an arrow", Share.of(2, 3).told(), () -> x.effect(2, 2, 1, 1));
        x.setBits(1, 1);
        expect.is("18 bits", Share.of(5, 9).told(), () -> x.chance(1, 1));
        x.remove(1, 0);
        expect.is("18 an arrow less", Share.of(1, 3).told(), () -> x.chance(1, 1));
        expect.is("15 an arrow less", Share.of(1, 3).told(), () -> x.trueEffect(2, 2, 1, 1));
        expect.is("14 an arrow less", Share.of(1, 3).told(), () -> x.effect(2, 2, 1, 1));
        x.hide(0, 1);
        expect.is("18 a hidden cause", Share.of(1, 2).told(), () -> x.chance(1, 1));
        expect.is("15 a hidden cause", Share.of(1, 2).told(), () -> x.trueEffect(2, 2, 1, 1));
        expect.is("14 a hidden cause", Share.of(1, 2).told(), () -> x.effect(2, 2, 1, 1));
        expect.is("20 a hidden cause", false, () -> x.areIndependent(0, 1, 0));
    }

    private static void wrongInputs() {
        EffectCourt x = Courts.of(3, 0, 1);
        int[][] chances = {{8, 0}, {-1, 0}, {1, 2}, {1, -1}, {9, 1}, {7, 8},
            {Integer.MIN_VALUE, 0}, {0, Integer.MIN_VALUE}};
        for (int[] of : chances) {
            String call = "(" + of[0] + ", " + of[1];
            expect.is("18 chance" + call, WRONG, () -> x.chance(of[0], of[1]));
            expect.is("19 chanceIf" + call, WRONG, () -> x.chanceIf(of[0], of[1], 0, 0));
            expect.is("19 chanceIf given " + call, WRONG, () -> x.chanceIf(0, 0, of[0], of[1]));
        }
        expect.is("19 chanceIf(1, 1, 1, 1)", WRONG, () -> x.chanceIf(1, 1, 1, 1));
        expect.is("19 chanceIf(3, 0, 6, 0)", WRONG, () -> x.chanceIf(3, 0, 6, 0));
        int[][] outside = {{-1, 0, 0}, {3, 0, 0}, {0, 3, 0}, {0, -1, 0}, {3, 3, 8}};
        for (int[] of : outside) {
            expect.is("20 areIndependent " + of[0] + ", " + of[1] + ", " + of[2], RANGE,
                    () -> x.areIndependent(of[0], of[1], of[2]));
        }
        int[][] impossible = {{1, 1, 0}, {0, 2, 8}, {0, 2, -1}, {0, 2, 1}, {0, 2, 4}};
        for (int[] of : impossible) {
            expect.is("20 areIndependent " + of[0] + ", " + of[1] + ", " + of[2], WRONG,
                    () -> x.areIndependent(of[0], of[1], of[2]));
        }
    }
}
