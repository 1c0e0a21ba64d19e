import java.util.NoSuchElementException;

/** Promises 1 to 8: the graph. */
final class GraphTest {
    private static final Class<?> RANGE = IndexOutOfBoundsException.class;
    private static final Class<?> WRONG = IllegalArgumentException.class;
    private static final Class<?> STATE = IllegalStateException.class;
    private static final Class<?> ABSENT = NoSuchElementException.class;

    private static Expect expect;

    public static void main(String[] args) {
        expect = new Expect("GraphTest");
        newObject();
        variables();
        arrows();
        removing();
        hiding();
        kin();
        districts();
        expect.close();
    }

    private static void newObject() {
        EffectCourt x = new EffectCourt();
        expect.is("1 rows(0)", RANGE, () -> x.rows(0));
        expect.is("1 ancestors(0)", 0, () -> x.ancestors(0));
        expect.is("1 ancestors(1)", WRONG, () -> x.ancestors(1));
        expect.is("1 graphs()", 1, () -> x.graphs());
        expect.is("1 meanParents()", ArithmeticException.class, () -> x.meanParents());
        expect.is("1 chance(0, 0)", 1, () -> x.chance(0, 0));
        expect.is("1 variable()", 0, () -> x.variable());
        EffectCourt y = new EffectCourt();
        expect.is("1 two objects have nothing in common", 0, () -> y.variable());
    }

    private static void variables() {
        EffectCourt x = new EffectCourt();
        for (int number = 0; number < 6; number++) {
            int due = number;
            expect.is("2 variable()", due, () -> x.variable());
        }
        expect.is("2 variable() of seven", STATE, () -> x.variable());
        expect.is("2 variable() of seven again", STATE, () -> x.variable());
        expect.is("2 descendants(63)", 63, () -> x.descendants(63));
        expect.is("2 descendants(64)", WRONG, () -> x.descendants(64));
    }

    private static void arrows() {
        EffectCourt x = Courts.of(4);
        expect.is("3 arrow(0, 1)", 1, () -> x.arrow(0, 1));
        expect.is("3 arrow(1, 2)", 2, () -> x.arrow(1, 2));
        expect.is("3 arrow(3, 0)", 3, () -> x.arrow(3, 0));
        expect.is("3 arrow(2, 3) round over three", WRONG, () -> x.arrow(2, 3));
        expect.is("3 arrow(1, 0) round over one", WRONG, () -> x.arrow(1, 0));
        expect.is("3 arrow(2, 2) round by itself", WRONG, () -> x.arrow(2, 2));
        expect.is("3 arrow(0, 1) twice", STATE, () -> x.arrow(0, 1));
        expect.is("3 arrow(-1, 0)", RANGE, () -> x.arrow(-1, 0));
        expect.is("3 arrow(4, 0)", RANGE, () -> x.arrow(4, 0));
        expect.is("3 arrow(0, 4)", RANGE, () -> x.arrow(0, 4));
        expect.is("3 arrow(0, -1)", RANGE, () -> x.arrow(0, -1));
        expect.is("3 arrow(5, 5): no such one goes ahead of round", RANGE, () -> x.arrow(5, 5));
        expect.is("3 arrow(MAX, MIN)", RANGE,
                () -> x.arrow(Integer.MAX_VALUE, Integer.MIN_VALUE));
        expect.is("3 arrow(3, 2) the long way round", 4, () -> x.arrow(3, 2));
        expect.is("3 nothing came of what threw", 0b1000, () -> x.ancestors(0b1000));
    }

    private static void removing() {
        EffectCourt x = Courts.of(3);
        x.arrow(0, 1);
        x.arrow(1, 2);
        expect.is("4 remove(1, 0): the other way is not there", ABSENT, () -> x.remove(1, 0));
        expect.is("4 remove(0, 2)", ABSENT, () -> x.remove(0, 2));
        expect.is("4 remove(0, 0)", ABSENT, () -> x.remove(0, 0));
        expect.is("4 remove(3, 0)", RANGE, () -> x.remove(3, 0));
        expect.is("4 remove(0, 3)", RANGE, () -> x.remove(0, 3));
        expect.is("4 remove(-1, 0)", RANGE, () -> x.remove(-1, 0));
        expect.is("4 remove(0, -1)", RANGE, () -> x.remove(0, -1));
        expect.is("4 remove(0, 1)", 1, () -> x.remove(0, 1));
        expect.is("4 remove(0, 1) again", ABSENT, () -> x.remove(0, 1));
        expect.is("4 ancestors(4)", 0b110, () -> x.ancestors(0b100));
        expect.is("4 arrow(2, 0) is round no more", 2, () -> x.arrow(2, 0));
        expect.is("4 arrow(0, 1) is round now", WRONG, () -> x.arrow(0, 1));
        expect.is("4 remove(1, 2)", 1, () -> x.remove(1, 2));
        expect.is("4 remove(2, 0)", 0, () -> x.remove(2, 0));
        expect.is("4 meanParents()", 0.0, () -> x.meanParents());
        x.hide(0, 1);
        expect.is("4 remove(0, 1): a hidden cause is no arrow", ABSENT, () -> x.remove(0, 1));
    }

    private static void hiding() {
        EffectCourt x = Courts.of(3);
        expect.is("5 hide(0, 1)", 0, () -> x.hide(0, 1));
        expect.is("5 hide(1, 0): another one of the same", 1, () -> x.hide(1, 0));
        expect.is("5 hide(2, 2)", WRONG, () -> x.hide(2, 2));
        expect.is("5 hide(3, 3)", RANGE, () -> x.hide(3, 3));
        expect.is("5 hide(0, 3)", RANGE, () -> x.hide(0, 3));
        expect.is("5 hide(-1, 0)", RANGE, () -> x.hide(-1, 0));
        expect.is("5 hide(0, -1)", RANGE, () -> x.hide(0, -1));
        expect.is("5 hide(1, 2)", 2, () -> x.hide(1, 2));
        expect.is("5 hide(0, 2)", 3, () -> x.hide(0, 2));
        expect.is("5 hide(0, 1) of five", STATE, () -> x.hide(0, 1));
        expect.is("5 hide(1, 1) of five: the same goes first", WRONG, () -> x.hide(1, 1));
        expect.is("5 hide(0, 9) of five: no such one goes first", RANGE, () -> x.hide(0, 9));
        expect.is("5 rows(0)", 8, () -> x.rows(0));
        expect.is("5 rows(1)", 8, () -> x.rows(1));
        expect.is("5 rows(2)", 4, () -> x.rows(2));
        expect.is("5 ancestors(1): hidden causes lead nowhere", 1, () -> x.ancestors(1));
    }

    private static void kin() {
        EffectCourt x = Courts.of(5);
        x.arrow(4, 3);
        x.arrow(3, 1);
        x.arrow(1, 0);
        x.arrow(2, 0);
        expect.is("6 ancestors(0)", 0, () -> x.ancestors(0));
        expect.is("6 ancestors(1)", 0b11111, () -> x.ancestors(0b00001));
        expect.is("6 ancestors(2)", 0b11010, () -> x.ancestors(0b00010));
        expect.is("6 ancestors(4)", 0b00100, () -> x.ancestors(0b00100));
        expect.is("6 ancestors(12)", 0b11100, () -> x.ancestors(0b01100));
        expect.is("6 ancestors(32)", WRONG, () -> x.ancestors(32));
        expect.is("6 ancestors(33)", WRONG, () -> x.ancestors(33));
        expect.is("6 ancestors(-1)", WRONG, () -> x.ancestors(-1));
        expect.is("6 ancestors(MIN)", WRONG, () -> x.ancestors(Integer.MIN_VALUE));
        expect.is("7 descendants(0)", 0, () -> x.descendants(0));
        expect.is("7 descendants(16)", 0b11011, () -> x.descendants(0b10000));
        expect.is("7 descendants(8)", 0b01011, () -> x.descendants(0b01000));
        expect.is("7 descendants(1)", 0b00001, () -> x.descendants(0b00001));
        expect.is("7 descendants(6)", 0b00111, () -> x.descendants(0b00110));
        expect.is("7 descendants(32)", WRONG, () -> x.descendants(32));
        expect.is("7 descendants(-1)", WRONG, () -> x.descendants(-1));
        expect.is("7 descendants(MIN)", WRONG, () -> x.descendants(Integer.MIN_VALUE));
    }

    private static void districts() {
        EffectCourt x = Courts.of(6);
        x.hide(5, 4);
        x.hide(3, 4);
        x.hide(0, 3);
        x.hide(1, 2);
        x.arrow(0, 1);
        expect.is("8 district(0, 63)", 0b111001, () -> x.district(0, 63));
        expect.is("8 district(5, 63)", 0b111001, () -> x.district(5, 63));
        expect.is("8 district(1, 63)", 0b000110, () -> x.district(1, 63));
        expect.is("8 district(5, 110111)", 0b110000, () -> x.district(5, 0b110111));
        expect.is("8 district(0, 110111)", 0b000001, () -> x.district(0, 0b110111));
        expect.is("8 district(0, 101001)", 0b001001, () -> x.district(0, 0b101001));
        expect.is("8 district(2, 4)", 0b000100, () -> x.district(2, 4));
        expect.is("8 district(2, 59)", WRONG, () -> x.district(2, 59));
        expect.is("8 district(2, 0)", WRONG, () -> x.district(2, 0));
        expect.is("8 district(2, 64)", WRONG, () -> x.district(2, 64));
        expect.is("8 district(2, 68)", WRONG, () -> x.district(2, 68));
        expect.is("8 district(2, -1)", WRONG, () -> x.district(2, -1));
        expect.is("8 district(6, 63)", RANGE, () -> x.district(6, 63));
        expect.is("8 district(6, 64)", RANGE, () -> x.district(6, 64));
        expect.is("8 district(-1, 0)", RANGE, () -> x.district(-1, 0));
    }
}
