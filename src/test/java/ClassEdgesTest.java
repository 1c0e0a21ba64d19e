import java.util.function.Supplier;

/** Promises 27, 28, 30 and 31 at their edges. */
final class ClassEdgesTest extends Edges {
    private static final int[] NO_VARIABLES = {LEAST, -32, -1, 6, 32, GREATEST};
    private static final Supplier<EffectCourt> SIX = () -> Courts.of(6);
    private static final Supplier<EffectCourt> CHAIN = () -> Courts.chain(6);
    private static final Supplier<EffectCourt> ALL_FIFTEEN = () -> Courts.all(6);
    private static final Supplier<EffectCourt> HIDDEN = () -> Courts.hiding(Courts.all(6), 0, 1);
    private static final Supplier<EffectCourt> FOUR_HIDDEN =
            () -> Courts.hiding(Courts.of(6), 0, 1, 0, 1, 2, 3, 4, 5);

    public static void main(String[] args) {
        expect = new Expect("ClassEdgesTest");
        counts();
        hiddenCauses();
        toldNumbers();
        toldOfFewAndAll();
        met();
        shares();
        means();
        expect.close();
    }

    private static void counts() {
        answers("27 no variables", 1, EffectCourt::new, x -> x.graphs());
        answers("27 one variable", 1, () -> Courts.of(1), x -> x.graphs());
        answers("27 two apart", 1, () -> Courts.of(2), x -> x.graphs());
        answers("27 two joined", 2, () -> Courts.of(2, 1, 0), x -> x.graphs());
        answers("27 six apart", 1, SIX, x -> x.graphs());
        answers("27 six in a chain", 6, CHAIN, x -> x.graphs());
        int orders = 1;
        for (int size = 1; size <= 6; size++) {
            int joined = size;
            orders *= size;
            answers("27 all of " + size + " joined", orders, () -> Courts.all(joined),
                    x -> x.graphs());
        }
        answers("27 all but one of fifteen", 216, () -> {
            EffectCourt court = ALL_FIFTEEN.get();
            court.remove(4, 5);
            return court;
        }, x -> x.graphs());
        answers("27 all but one of fifteen, met by two that are not joined", 24, () -> {
            EffectCourt court = ALL_FIFTEEN.get();
            court.remove(0, 1);
            return court;
        }, x -> x.graphs());
    }

    private static void hiddenCauses() {
        refuses("27 one hidden cause", NOT_DONE, HIDDEN, x -> x.graphs());
        refuses("27 four hidden causes", NOT_DONE, FOUR_HIDDEN, x -> x.graphs());
        refuses("27 two variables and a hidden cause", NOT_DONE,
                () -> Courts.hiding(Courts.of(2), 0, 1), x -> x.graphs());
        refuses("28 one hidden cause", NOT_DONE, HIDDEN, x -> x.told(0, 1));
        refuses("28 one hidden cause of others", NOT_DONE, HIDDEN, x -> x.told(4, 5));
        refuses("28 four hidden causes", NOT_DONE, FOUR_HIDDEN, x -> x.told(5, 0));
        for (int same = 0; same < 6; same++) {
            int one = same;
            refuses("28 the same ahead of hidden causes", WRONG, FOUR_HIDDEN,
                    x -> x.told(one, one));
        }
        for (int none : NO_VARIABLES) {
            refuses("28 no such one ahead of hidden causes", RANGE, HIDDEN, x -> x.told(none, 0));
            refuses("28 no such other ahead of hidden causes", RANGE, HIDDEN,
                    x -> x.told(0, none));
        }
    }

    private static void toldNumbers() {
        for (int none : NO_VARIABLES) {
            refuses("28 no such one " + none, RANGE, CHAIN, x -> x.told(none, 0));
            refuses("28 no such other " + none, RANGE, CHAIN, x -> x.told(5, none));
            refuses("28 ahead of the same " + none, RANGE, CHAIN, x -> x.told(none, none));
        }
        for (int same = 0; same < 6; same++) {
            int one = same;
            refuses("28 both are " + one, WRONG, CHAIN, x -> x.told(one, one));
        }
        refuses("28 no variables", RANGE, EffectCourt::new, x -> x.told(0, 0));
        refuses("28 one variable", WRONG, () -> Courts.of(1), x -> x.told(0, 0));
        refuses("28 the second of one", RANGE, () -> Courts.of(1), x -> x.told(0, 1));
        answers("28 the least and the greatest", '0', CHAIN, x -> x.told(0, 5));
        answers("28 the greatest and the least", '0', CHAIN, x -> x.told(5, 0));
        answers("28 two apart", '0', () -> Courts.of(2), x -> x.told(0, 1));
        answers("28 two joined", '-', () -> Courts.of(2, 0, 1), x -> x.told(1, 0));
    }

    private static void toldOfFewAndAll() {
        for (int one = 0; one < 6; one++) {
            for (int other = 0; other < 6; other++) {
                int from = one;
                int to = other;
                if (from == to) {
                    continue;
                }
                String call = " (" + from + ", " + to + ")";
                answers("28 no arrows" + call, '0', SIX, x -> x.told(from, to));
                answers("28 all arrows" + call, '-', ALL_FIFTEEN, x -> x.told(from, to));
                char due = to == 3 ? '>' : from == 3 ? '<' : '0';
                answers("28 five arrows to one" + call, due,
                        () -> Courts.of(6, 0, 3, 1, 3, 2, 3, 4, 3, 5, 3), x -> x.told(from, to));
            }
        }
    }

    private static void met() {
        Supplier<EffectCourt> apart = () -> Courts.of(3, 0, 2, 1, 2);
        answers("27 met by two that are not joined", 1, apart, x -> x.graphs());
        answers("28 met by two that are not joined", '>', apart, x -> x.told(0, 2));
        answers("28 met by two that are not joined, back", '<', apart, x -> x.told(2, 1));
        Supplier<EffectCourt> joined = () -> Courts.of(3, 0, 2, 1, 2, 0, 1);
        answers("27 met by two that are joined", 6, joined, x -> x.graphs());
        answers("28 met by two that are joined", '-', joined, x -> x.told(0, 2));
        Supplier<EffectCourt> fork = () -> Courts.of(3, 2, 0, 2, 1);
        answers("27 none is met", 3, fork, x -> x.graphs());
        answers("28 none is met", '-', fork, x -> x.told(2, 0));
        Supplier<EffectCourt> ring = () -> Courts.of(4, 0, 1, 1, 2, 0, 3, 3, 2);
        answers("27 rings are no graphs of the class", 3, ring, x -> x.graphs());
        answers("28 the way to what is met", '>', ring, x -> x.told(3, 2));
        answers("28 the way from the other end", '-', ring, x -> x.told(0, 3));
        Supplier<EffectCourt> past = () -> Courts.of(4, 0, 2, 1, 2, 2, 3);
        answers("27 on from what is met: not the same two would meet there", 1, past,
                x -> x.graphs());
        answers("28 on from what is met", '<', past, x -> x.told(3, 2));
    }

    private static void shares() {
        refuses("30 no variables", REFUSED, EffectCourt::new, x -> x.identifiedShare());
        refuses("30 one variable", REFUSED, () -> Courts.of(1), x -> x.identifiedShare());
        answers("30 two variables", 1.0f, () -> Courts.of(2), x -> x.identifiedShare());
        answers("30 six apart", 1.0f, SIX, x -> x.identifiedShare());
        answers("30 all arrows", 1.0f, ALL_FIFTEEN, x -> x.identifiedShare());
        answers("30 all hidden causes", 1.0f, FOUR_HIDDEN, x -> x.identifiedShare());
        answers("30 all arrows and one hidden cause", 25f / 30f, HIDDEN,
                x -> x.identifiedShare());
        answers("30 all arrows and four of the same two", 25f / 30f,
                () -> Courts.hiding(Courts.all(6), 0, 1, 0, 1, 0, 1, 0, 1),
                x -> x.identifiedShare());
        answers("30 the bow", 0.5f, () -> Courts.hiding(Courts.of(2, 0, 1), 0, 1),
                x -> x.identifiedShare());
    }

    private static void means() {
        refuses("31 no variables", REFUSED, EffectCourt::new, x -> x.meanParents());
        answers("31 one variable", 0.0, () -> Courts.of(1), x -> x.meanParents());
        answers("31 six apart", 0.0, SIX, x -> x.meanParents());
        answers("31 one arrow of six", 1.0 / 6.0, () -> Courts.of(6, 5, 0), x -> x.meanParents());
        answers("31 all arrows", 2.5, ALL_FIFTEEN, x -> x.meanParents());
        answers("31 hidden causes alone", 0.0, FOUR_HIDDEN, x -> x.meanParents());
        answers("31 all arrows and a hidden cause", 2.5, HIDDEN, x -> x.meanParents());
        answers("31 all arrows but one", 14.0 / 6.0, () -> {
            EffectCourt court = ALL_FIFTEEN.get();
            court.remove(0, 5);
            return court;
        }, x -> x.meanParents());
    }
}
