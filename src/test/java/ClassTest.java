/** Promises 27, 28, 30 and 31: classes and figures. */
final class ClassTest {
    private static final Class<?> RANGE = IndexOutOfBoundsException.class;
    private static final Class<?> WRONG = IllegalArgumentException.class;
    private static final Class<?> NOT_DONE = UnsupportedOperationException.class;
    private static final Class<?> REFUSED = ArithmeticException.class;

    private static Expect expect;

    public static void main(String[] args) {
        expect = new Expect("ClassTest");
        counts();
        told();
        afterChanges();
        withHiddenCauses();
        shares();
        means();
        expect.close();
    }

    private static void counts() {
        expect.is("27 no variables", 1, () -> Courts.of(0).graphs());
        expect.is("27 no arrows", 1, () -> Courts.of(6).graphs());
        expect.is("27 one arrow", 2, () -> Courts.of(2, 1, 0).graphs());
        expect.is("27 a chain of six", 6,
                () -> Courts.of(6, 0, 1, 1, 2, 2, 3, 3, 4, 4, 5).graphs());
        expect.is("27 a star of six", 6, () -> Courts.of(6, 3, 0, 3, 1, 3, 2, 3, 4, 3, 5).graphs());
        expect.is("27 all five that lead to one", 1,
                () -> Courts.of(6, 0, 3, 1, 3, 2, 3, 4, 3, 5, 3).graphs());
        expect.is("27 three arrows apart", 8, () -> Courts.of(6, 0, 1, 2, 3, 4, 5).graphs());
        expect.is("27 all joined", 720, () -> Courts.all(6).graphs());
        expect.is("27 five that are all joined", 120, () -> Courts.all(5).graphs());
        expect.is("27 a square with a diagonal", 3,
                () -> Courts.of(4, 0, 1, 0, 2, 1, 3, 2, 3, 0, 3).graphs());
        expect.is("27 a square without its diagonal", 3,
                () -> Courts.of(4, 0, 1, 0, 2, 1, 3, 2, 3).graphs());
        expect.is("27 met, but joined", 6, () -> Courts.of(3, 0, 2, 1, 2, 0, 1).graphs());
        expect.is("27 two of three leaves meet", 1, () -> Courts.of(4, 0, 3, 1, 3, 3, 2).graphs());
    }

    private static void told() {
        EffectCourt x = Courts.of(5, 0, 2, 1, 2, 2, 3, 1, 4);
        expect.is("28 told(0, 2) met", '>', () -> x.told(0, 2));
        expect.is("28 told(2, 0)", '<', () -> x.told(2, 0));
        expect.is("28 told(2, 3) would be met otherwise", '>', () -> x.told(2, 3));
        expect.is("28 told(3, 2)", '<', () -> x.told(3, 2));
        expect.is("28 told(1, 4)", '-', () -> x.told(1, 4));
        expect.is("28 told(4, 1)", '-', () -> x.told(4, 1));
        expect.is("28 told(0, 1)", '0', () -> x.told(0, 1));
        expect.is("28 told(4, 3)", '0', () -> x.told(4, 3));
        expect.is("28 told(5, 5)", RANGE, () -> x.told(5, 5));
        expect.is("28 told(0, 5)", RANGE, () -> x.told(0, 5));
        expect.is("28 told(-1, 0)", RANGE, () -> x.told(-1, 0));
        expect.is("28 told(0, -1)", RANGE, () -> x.told(0, -1));
        expect.is("28 told(3, 3)", WRONG, () -> x.told(3, 3));
    }

    private static void afterChanges() {
        EffectCourt x = Courts.of(3, 0, 2, 1, 2);
        expect.is("27 met", 1, () -> x.graphs());
        expect.is("28 met", '>', () -> x.told(0, 2));
        x.arrow(0, 1);
        expect.is("27 now joined", 6, () -> x.graphs());
        expect.is("28 now joined", '-', () -> x.told(0, 2));
        x.remove(1, 2);
        expect.is("27 an arrow less", 3, () -> x.graphs());
        expect.is("28 an arrow less", '0', () -> x.told(1, 2));
        x.variable();
        x.arrow(3, 2);
        expect.is("28 met by a new one", '<', () -> x.told(2, 3));
        expect.is("27 met by a new one", 2, () -> x.graphs());
    }

    private static void withHiddenCauses() {
        EffectCourt x = Courts.of(2, 0, 1);
        expect.is("27 ahead of the hidden cause", 2, () -> x.graphs());
        x.hide(0, 1);
        expect.is("27 a hidden cause", NOT_DONE, () -> x.graphs());
        expect.is("28 a hidden cause", NOT_DONE, () -> x.told(0, 1));
        expect.is("28 the same goes first", WRONG, () -> x.told(0, 0));
        expect.is("28 no such one goes first", RANGE, () -> x.told(2, 2));
    }

    private static void shares() {
        expect.is("30 no variable", REFUSED, () -> Courts.of(0).identifiedShare());
        expect.is("30 one variable", REFUSED, () -> Courts.of(1).identifiedShare());
        EffectCourt x = Courts.of(2, 0, 1);
        expect.is("30 all", 1.0f, () -> x.identifiedShare());
        x.hide(0, 1);
        expect.is("30 all but the bow", 0.5f, () -> x.identifiedShare());
        x.variable();
        expect.is("30 five of six", 5f / 6f, () -> x.identifiedShare());
        x.arrow(1, 2);
        expect.is("30 the bow and what comes of it", 4f / 6f, () -> x.identifiedShare());
    }

    private static void means() {
        expect.is("31 no variable", REFUSED, () -> Courts.of(0).meanParents());
        expect.is("31 no arrow", 0.0, () -> Courts.of(1).meanParents());
        expect.is("31 one of two", 0.5, () -> Courts.of(2, 1, 0).meanParents());
        expect.is("31 two of three", 2.0 / 3.0, () -> Courts.of(3, 1, 0, 2, 0).meanParents());
        expect.is("31 all", 2.5, () -> Courts.all(6).meanParents());
        EffectCourt x = Courts.of(2);
        x.hide(0, 1);
        expect.is("31 hidden causes are no parents", 0.0, () -> x.meanParents());
    }
}
