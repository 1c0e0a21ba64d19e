import java.util.NoSuchElementException;

/** Promises 12 to 15 and 29: effects that are identified, reckoned and true. */
final class EffectTest {
    private static final Class<?> WRONG = IllegalArgumentException.class;
    private static final Class<?> ABSENT = NoSuchElementException.class;
    private static final Class<?> NOT_DONE = UnsupportedOperationException.class;

    private static Expect expect;

    public static void main(String[] args) {
        expect = new Expect("EffectTest");
        known();
        barred();
        confounded();
        napkin();
        ofNothing();
        wrongInputs();
        expect.close();
    }

    private static void bars(String name, EffectCourt x, int from, int on, int barrier) {
        String call = "(" + from + ", " + on + ") of " + name;
        expect.is("12 isIdentified" + call, barrier == 0, () -> x.isIdentified(from, on));
        expect.is("13 barredBy" + call, barrier == 0 ? ABSENT : (Object) barrier,
                () -> x.barredBy(from, on));
        if (barrier != 0) {
            expect.is("14 effect" + call, NOT_DONE, () -> x.effect(from, from, on, on));
        } else {
            expect.is("14 effect" + call, x.trueEffect(from, from, on, on),
                    () -> x.effect(from, from, on, on));
        }
        expect.is("29 isSame" + call, true, () -> x.isSame(from, on));
    }

    /** Graphs of the books of which it is known whether the effect is identified. */
    private static void known() {
        EffectCourt bow = Courts.of(2, 0, 1);
        bow.hide(0, 1);
        bars("the bow", bow, 0b01, 0b10, 0b11);
        bars("the bow", bow, 0b10, 0b01, 0);
        EffectCourt front = Courts.of(3, 0, 1, 1, 2);
        front.hide(0, 2);
        front.setBits(0, 1);
        front.setBits(1, 2);
        front.setBits(2, 0b0110);
        bars("the front door", front, 0b001, 0b100, 0);
        bars("the front door", front, 0b001, 0b110, 0);
        bars("the front door", front, 0b010, 0b101, 0);
        EffectCourt instrument = Courts.of(3, 0, 1, 1, 2);
        instrument.hide(1, 2);
        bars("the instrument", instrument, 0b010, 0b100, 0b110);
        bars("the instrument", instrument, 0b001, 0b100, 0);
        bars("the instrument", instrument, 0b011, 0b100, 0b110);
        EffectCourt middle = Courts.of(3, 0, 1, 1, 2);
        middle.hide(0, 1);
        middle.hide(0, 2);
        bars("a bow ahead of the front", middle, 0b001, 0b100, 0b011);
        EffectCourt apart = Courts.of(2);
        apart.hide(0, 1);
        bars("two apart", apart, 0b01, 0b10, 0);
    }

    private static void barred() {
        EffectCourt twice = Courts.of(4, 0, 1, 2, 3);
        twice.hide(2, 3);
        twice.hide(0, 1);
        bars("two bows", twice, 0b0101, 0b1010, 0b0011);
        bars("two bows", twice, 0b0100, 0b1010, 0b1100);
        EffectCourt high = Courts.of(4, 3, 0, 1, 2);
        high.hide(3, 0);
        high.hide(1, 2);
        bars("bows whose lowest ones differ", high, 0b1010, 0b0101, 0b1001);
        bars("only the second one needed", high, 0b1010, 0b0100, 0b0110);
        EffectCourt narrowed = Courts.of(3, 0, 1);
        narrowed.hide(0, 1);
        narrowed.hide(1, 2);
        bars("a district that is narrowed once", narrowed, 0b001, 0b010, 0b011);
        EffectCourt deeper = Courts.of(5, 0, 1, 1, 2, 2, 3);
        deeper.hide(0, 2);
        deeper.hide(2, 4);
        deeper.hide(4, 3);
        bars("a district that is narrowed to itself", deeper, 0b00100, 0b01000, 0);
    }

    private static void confounded() {
        EffectCourt x = Courts.of(3, 0, 2, 1, 0, 1, 2);
        x.setBits(0, 0b10);
        x.setBits(2, 0b1000);
        expect.is("14 effect", Share.of(4, 9).told(), () -> x.effect(1, 1, 4, 4));
        expect.is("14 effect of the other value", Share.of(5, 9).told(),
                () -> x.effect(1, 1, 4, 0));
        expect.is("14 effect at 0", Share.of(1, 3).told(), () -> x.effect(1, 0, 4, 4));
        expect.is("15 trueEffect", Share.of(4, 9).told(), () -> x.trueEffect(1, 1, 4, 4));
        expect.is("19 chanceIf is no effect", Share.of(1, 2).told(),
                () -> x.chanceIf(4, 4, 1, 1));
        expect.is("14 effect on what is not led to", Share.of(1, 3).told(),
                () -> x.effect(1, 1, 2, 2));
        expect.is("14 effect of two", Share.of(2, 3).told(), () -> x.effect(3, 3, 4, 4));
        expect.is("14 effect on two", Share.of(2, 9).told(), () -> x.effect(1, 1, 6, 6));
        expect.is("15 trueEffect on two", Share.of(2, 9).told(), () -> x.trueEffect(1, 1, 6, 6));
        EffectCourt bow = Courts.of(2, 0, 1);
        bow.hide(0, 1);
        bow.setBits(0, 0b10);
        bow.setBits(1, 0b1000);
        expect.is("15 trueEffect of the bow", Share.of(1, 2).told(),
                () -> bow.trueEffect(1, 1, 2, 2));
        expect.is("15 trueEffect of the bow at 0", Share.of(1, 3).told(),
                () -> bow.trueEffect(1, 0, 2, 2));
        expect.is("14 effect of the bow", NOT_DONE, () -> bow.effect(1, 1, 2, 2));
        expect.is("19 chanceIf of the bow", Share.of(5, 9).told(),
                () -> bow.chanceIf(2, 2, 1, 1));
    }

    /** 0 leads to 1 to 2 to 3, and 0 has a hidden cause with 2 and with 3: two steps down. */
    private static void napkin() {
        EffectCourt x = Courts.of(4, 0, 1, 1, 2, 2, 3);
        x.hide(0, 2);
        x.hide(0, 3);
        x.setBits(0, 0b1000);
        x.setBits(1, 0b10);
        x.setBits(2, 0b0110);
        x.setBits(3, 0b1110);
        bars("the napkin", x, 0b0100, 0b1000, 0);
        bars("the napkin", x, 0b0010, 0b1000, 0);
        bars("the napkin", x, 0b0001, 0b1000, 0);
        expect.is("14 effect of the napkin", Share.of(2, 3).told(), () -> x.effect(4, 4, 8, 8));
        expect.is("14 effect of the napkin at 0", Share.of(1, 2).told(),
                () -> x.effect(4, 0, 8, 8));
    }

    private static void ofNothing() {
        EffectCourt x = Courts.of(3, 0, 1, 1, 2);
        x.hide(0, 1);
        x.hide(1, 2);
        x.setBits(1, 0b1010);
        for (int values = 0; values < 8; values++) {
            int asked = values;
            expect.is("14 effect(0, 0, 7, " + values + ")", x.chance(7, values),
                    () -> x.effect(0, 0, 7, asked));
            expect.is("15 trueEffect(0, 0, 7, " + values + ")", x.chance(7, values),
                    () -> x.trueEffect(0, 0, 7, asked));
        }
        bars("nothing done", x, 0, 0b111, 0);
        bars("nothing done", x, 0, 0b010, 0);
    }

    private static void wrongInputs() {
        EffectCourt x = Courts.of(2, 0, 1);
        x.hide(0, 1);
        int[][] sets = {{1, 0}, {0, 0}, {1, 1}, {1, 3}, {4, 1}, {1, 4}, {-1, 1}, {0, -1}, {5, 2},
            {0, Integer.MIN_VALUE}};
        for (int[] of : sets) {
            String call = "(" + of[0] + ", " + of[1] + ")";
            expect.is("12 isIdentified" + call, WRONG, () -> x.isIdentified(of[0], of[1]));
            expect.is("13 barredBy" + call, WRONG, () -> x.barredBy(of[0], of[1]));
            expect.is("14 effect" + call, WRONG, () -> x.effect(of[0], 0, of[1], 0));
            expect.is("15 trueEffect" + call, WRONG, () -> x.trueEffect(of[0], 0, of[1], 0));
            expect.is("29 isSame" + call, WRONG, () -> x.isSame(of[0], of[1]));
        }
        int[][] values = {{1, 2, 2, 0}, {1, 0, 2, 1}, {1, -1, 2, 0}, {0, 1, 2, 0}, {1, 0, 2, 3},
            {2, 2, 1, 4}, {2, 2, 1, Integer.MIN_VALUE}};
        for (int[] of : values) {
            String call = "(" + of[0] + ", " + of[1] + ", " + of[2] + ", " + of[3] + ")";
            expect.is("14 effect" + call, WRONG, () -> x.effect(of[0], of[1], of[2], of[3]));
            expect.is("15 trueEffect" + call, WRONG,
                    () -> x.trueEffect(of[0], of[1], of[2], of[3]));
        }
    }
}
