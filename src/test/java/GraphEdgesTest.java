import java.util.function.Supplier;

/** Promises 1 to 8 at their edges. */
final class GraphEdgesTest extends Edges {
    private static final Supplier<EffectCourt> SIX = () -> Courts.of(6);
    private static final Supplier<EffectCourt> ALL_FIFTEEN = () -> Courts.all(6);
    private static final Supplier<EffectCourt> FOUR_HIDDEN =
            () -> Courts.hiding(Courts.of(6), 0, 1, 1, 2, 2, 3, 3, 4);
    private static final Supplier<EffectCourt> FOUR_ALIKE =
            () -> Courts.hiding(Courts.of(6), 0, 1, 1, 0, 0, 1, 1, 0);

    public static void main(String[] args) {
        expect = new Expect("GraphEdgesTest");
        noVariables();
        oneVariable();
        sixVariablesAndASeventh();
        arrowNumbers();
        rings();
        fifteenArrows();
        removing();
        removingAll();
        hidingNumbers();
        fourHiddenAndAFifth();
        kinOfOddSets();
        kinOfFewAndAll();
        districtNumbers();
        districtsOfFewAndAll();
        expect.close();
    }

    /** Whatever call names a variable is refused, and the empty set is the only one. */
    private static void noVariables() {
        Supplier<EffectCourt> none = EffectCourt::new;
        refusesVariables("1 rows", 0, none, (x, number) -> x.rows(number));
        refusesVariables("1 arrow", 0, none, (x, number) -> x.arrow(number, number));
        refusesVariables("1 remove", 0, none, (x, number) -> x.remove(number, number));
        refusesVariables("1 hide", 0, none, (x, number) -> x.hide(number, number));
        refusesVariables("1 district", 0, none, (x, number) -> x.district(number, 0));
        refusesSets("1 ancestors", 0, none, (x, set) -> x.ancestors(set));
        refusesSets("1 descendants", 0, none, (x, set) -> x.descendants(set));
        answers("1 ancestors(0)", 0, none, x -> x.ancestors(0));
        answers("1 descendants(0)", 0, none, x -> x.descendants(0));
        answers("1 the first variable", 0, none, x -> x.variable());
    }

    private static void oneVariable() {
        Supplier<EffectCourt> one = () -> Courts.of(1);
        refusesVariables("2 rows with one", 1, one, (x, number) -> x.rows(number));
        answers("2 rows(0) with one", 1, one, x -> x.rows(0));
        refuses("3 arrow(0, 0) with one", WRONG, one, x -> x.arrow(0, 0));
        refuses("3 arrow(0, 1) with one", RANGE, one, x -> x.arrow(0, 1));
        refuses("4 remove(0, 0) with one", ABSENT, one, x -> x.remove(0, 0));
        refuses("5 hide(0, 0) with one", WRONG, one, x -> x.hide(0, 0));
        refuses("5 hide(0, 1) with one", RANGE, one, x -> x.hide(0, 1));
        answers("6 ancestors(1) with one", 1, one, x -> x.ancestors(1));
        refusesSets("6 ancestors with one", 1, one, (x, set) -> x.ancestors(set));
        answers("7 descendants(1) with one", 1, one, x -> x.descendants(1));
        refusesSets("7 descendants with one", 1, one, (x, set) -> x.descendants(set));
        answers("8 district(0, 1) with one", 1, one, x -> x.district(0, 1));
        refuses("8 district(0, 0) with one", WRONG, one, x -> x.district(0, 0));
        answers("2 the second variable", 1, one, x -> x.variable());
    }

    private static void sixVariablesAndASeventh() {
        EffectCourt x = new EffectCourt();
        for (int number = 0; number < 6; number++) {
            int due = number;
            expect.is("2 no rows of " + due + " ahead of it", RANGE, () -> x.rows(due));
            expect.is("2 the number of the variable", due, () -> x.variable());
            expect.is("2 rows of " + due, 1, () -> x.rows(due));
        }
        refuses("2 a seventh", STATE, SIX, each -> each.variable());
        refuses("2 a seventh with all arrows", STATE, ALL_FIFTEEN, each -> each.variable());
        refuses("2 a seventh with all hidden causes", STATE, FOUR_HIDDEN, each -> each.variable());
        answers("2 a sixth", 5, () -> Courts.of(5), each -> each.variable());
        answers("2 a sixth with all arrows", 5, () -> Courts.all(5), each -> each.variable());
    }

    private static void arrowNumbers() {
        refusesVariables("3 arrow from", 6, SIX, (x, number) -> x.arrow(number, 0));
        refusesVariables("3 arrow to", 6, SIX, (x, number) -> x.arrow(0, number));
        refusesVariables("3 arrow to of two", 2, () -> Courts.of(2),
                (x, number) -> x.arrow(1, number));
        refusesVariables("3 ahead of leading round: arrow", 6, SIX,
                (x, number) -> x.arrow(number, number));
        answers("3 arrow(0, 5)", 1, SIX, x -> x.arrow(0, 5));
        answers("3 arrow(5, 0)", 1, SIX, x -> x.arrow(5, 0));
        answers("3 arrow(0, 1) of two", 1, () -> Courts.of(2), x -> x.arrow(0, 1));
        refuses("3 arrow(0, 1) that is there", STATE, () -> Courts.of(2, 0, 1),
                x -> x.arrow(0, 1));
        refuses("3 arrow(5, 0) that is there", STATE, () -> Courts.of(6, 5, 0),
                x -> x.arrow(5, 0));
        answers("3 arrow(0, 1) with a hidden cause", 1,
                () -> Courts.hiding(Courts.of(2), 0, 1), x -> x.arrow(0, 1));
    }

    private static void rings() {
        for (int variable = 0; variable < 6; variable++) {
            int itself = variable;
            refuses("3 an arrow from " + itself + " to itself", WRONG, SIX,
                    x -> x.arrow(itself, itself));
            refuses("3 an arrow from " + itself + " to itself behind all fifteen", WRONG,
                    ALL_FIFTEEN, x -> x.arrow(itself, itself));
        }
        refuses("3 a ring of two", WRONG, () -> Courts.of(6, 0, 1), x -> x.arrow(1, 0));
        refuses("3 a ring of three", WRONG, () -> Courts.of(6, 5, 0, 0, 3), x -> x.arrow(3, 5));
        refuses("3 a ring of six", WRONG, () -> Courts.chain(6), x -> x.arrow(5, 0));
        refuses("3 a ring of six against the numbers", WRONG,
                () -> Courts.of(6, 5, 4, 4, 3, 3, 2, 2, 1, 1, 0), x -> x.arrow(0, 5));
        answers("3 past the chain is no ring", 6, () -> Courts.chain(6), x -> x.arrow(0, 5));
        answers("3 two ways that meet are no ring", 3, () -> Courts.of(3, 0, 1, 0, 2),
                x -> x.arrow(1, 2));
        answers("3 hidden causes make no ring", 1,
                () -> Courts.hiding(Courts.of(3), 0, 1, 1, 2, 2, 0), x -> x.arrow(2, 0));
        EffectCourt opened = Courts.chain(6);
        opened.remove(2, 3);
        expect.is("3 a ring that is open again", 5, () -> opened.arrow(5, 0));
        expect.is("3 and closed by the arrow that was there", WRONG, () -> opened.arrow(2, 3));
    }

    private static void fifteenArrows() {
        EffectCourt up = Courts.of(6);
        EffectCourt down = Courts.of(6);
        int arrows = 0;
        for (int to = 0; to < 6; to++) {
            for (int from = 0; from < to; from++) {
                int low = from;
                int high = to;
                arrows++;
                expect.is("3 the number of arrows up", arrows, () -> up.arrow(low, high));
                expect.is("3 the number of arrows down", arrows, () -> down.arrow(high, low));
                refuses("3 one of all fifteen again", STATE, ALL_FIFTEEN,
                        x -> x.arrow(low, high));
                refuses("3 one of all fifteen the other way", WRONG, ALL_FIFTEEN,
                        x -> x.arrow(high, low));
            }
        }
        refusesVariables("3 a sixteenth to", 6, ALL_FIFTEEN, (x, number) -> x.arrow(5, number));
    }

    private static void removing() {
        refusesVariables("4 remove from", 6, ALL_FIFTEEN, (x, number) -> x.remove(number, 5));
        refusesVariables("4 remove to", 6, ALL_FIFTEEN, (x, number) -> x.remove(0, number));
        refusesVariables("4 ahead of not there: remove", 6, SIX,
                (x, number) -> x.remove(number, 0));
        answers("4 remove(0, 5)", 14, ALL_FIFTEEN, x -> x.remove(0, 5));
        answers("4 remove(5, 0)", 0, () -> Courts.of(6, 5, 0), x -> x.remove(5, 0));
        refuses("4 remove(5, 0) of the other way", ABSENT, ALL_FIFTEEN, x -> x.remove(5, 0));
        refuses("4 remove(0, 2) where arrows lead over 1", ABSENT, () -> Courts.chain(3),
                x -> x.remove(0, 2));
        refuses("4 remove(0, 1) of hidden causes", ABSENT, FOUR_ALIKE, x -> x.remove(0, 1));
        for (int from = 0; from < 6; from++) {
            for (int to = 0; to < 6; to++) {
                int one = from;
                int other = to;
                refuses("4 remove(" + one + ", " + other + ") with no arrows", ABSENT, SIX,
                        x -> x.remove(one, other));
            }
        }
    }

    private static void removingAll() {
        EffectCourt x = Courts.all(6);
        int left = 15;
        for (int to = 0; to < 6; to++) {
            for (int from = 0; from < to; from++) {
                int low = from;
                int high = to;
                left--;
                expect.is("4 the number of arrows left", left, () -> x.remove(low, high));
                expect.is("4 taken away once more", ABSENT, () -> x.remove(low, high));
            }
        }
        expect.is("4 as if none had been there", Picture.of(Courts.of(6)), () -> Picture.of(x));
        expect.is("3 the first arrow again", 1, () -> x.arrow(5, 0));
    }

    private static void hidingNumbers() {
        refusesVariables("5 hide of one", 6, SIX, (x, number) -> x.hide(number, 0));
        refusesVariables("5 hide of other", 6, SIX, (x, number) -> x.hide(5, number));
        refusesVariables("5 ahead of the same: hide", 6, SIX,
                (x, number) -> x.hide(number, number));
        answers("5 hide(0, 5)", 0, SIX, x -> x.hide(0, 5));
        answers("5 hide(5, 0)", 0, SIX, x -> x.hide(5, 0));
        answers("5 hide(0, 5) behind all fifteen", 0, ALL_FIFTEEN, x -> x.hide(0, 5));
        for (int variable = 0; variable < 6; variable++) {
            int same = variable;
            refuses("5 hide(" + same + ", " + same + ")", WRONG, SIX, x -> x.hide(same, same));
            refuses("5 ahead of a fifth: hide(" + same + ", " + same + ")", WRONG, FOUR_HIDDEN,
                    x -> x.hide(same, same));
        }
        EffectCourt x = Courts.of(6);
        expect.is("5 hide(0, 0)", WRONG, () -> x.hide(0, 0));
        expect.is("5 hide(0, 6)", RANGE, () -> x.hide(0, 6));
        expect.is("5 what is refused takes no number", 0, () -> x.hide(0, 1));
    }

    private static void fourHiddenAndAFifth() {
        EffectCourt x = Courts.of(6);
        for (int number = 0; number < 4; number++) {
            int due = number;
            expect.is("5 the number of the hidden cause", due, () -> x.hide(due, due + 1));
        }
        answers("5 a fourth of the same two", 3,
                () -> Courts.hiding(Courts.of(6), 0, 1, 0, 1, 1, 0), y -> y.hide(0, 1));
        refuses("5 a fifth of two that have one", STATE, FOUR_HIDDEN, y -> y.hide(0, 1));
        refuses("5 a fifth of two that have none", STATE, FOUR_HIDDEN, y -> y.hide(0, 5));
        refuses("5 a fifth of two that have all four", STATE, FOUR_ALIKE, y -> y.hide(0, 1));
        refuses("5 a fifth of two others", STATE, FOUR_ALIKE, y -> y.hide(4, 5));
        refusesVariables("5 ahead of a fifth: hide of one", 6, FOUR_HIDDEN,
                (y, number) -> y.hide(number, 0));
        refusesVariables("5 ahead of a fifth: hide of other", 6, FOUR_HIDDEN,
                (y, number) -> y.hide(0, number));
        answers("17 four of the same two count four times", 16, FOUR_ALIKE, y -> y.rows(1));
    }

    private static void kinOfOddSets() {
        refusesSets("6 ancestors", 6, SIX, (x, set) -> x.ancestors(set));
        refusesSets("6 ancestors with all arrows", 6, ALL_FIFTEEN, (x, set) -> x.ancestors(set));
        refusesSets("7 descendants", 6, SIX, (x, set) -> x.descendants(set));
        refusesSets("7 descendants with all arrows", 6, ALL_FIFTEEN,
                (x, set) -> x.descendants(set));
        refusesSets("6 ancestors of two", 2, () -> Courts.of(2, 0, 1),
                (x, set) -> x.ancestors(set));
        refusesSets("7 descendants of two", 2, () -> Courts.of(2, 0, 1),
                (x, set) -> x.descendants(set));
    }

    private static void kinOfFewAndAll() {
        answers("6 ancestors of the empty set", 0, ALL_FIFTEEN, x -> x.ancestors(0));
        answers("7 descendants of the empty set", 0, ALL_FIFTEEN, x -> x.descendants(0));
        answers("6 ancestors of all", 63, SIX, x -> x.ancestors(63));
        answers("7 descendants of all", 63, SIX, x -> x.descendants(63));
        answers("6 ancestors over five arrows", 63, () -> Courts.chain(6), x -> x.ancestors(32));
        answers("7 descendants over five arrows", 63, () -> Courts.chain(6),
                x -> x.descendants(1));
        answers("6 ancestors against the numbers", 63,
                () -> Courts.of(6, 5, 4, 4, 3, 3, 2, 2, 1, 1, 0), x -> x.ancestors(1));
        answers("7 descendants against the numbers", 63,
                () -> Courts.of(6, 5, 4, 4, 3, 3, 2, 2, 1, 1, 0), x -> x.descendants(32));
        answers("6 ancestors of both ends", 63, () -> Courts.chain(6), x -> x.ancestors(33));
        for (int variable = 0; variable < 6; variable++) {
            int itself = 1 << variable;
            answers("6 no arrows: itself", itself, SIX, x -> x.ancestors(itself));
            answers("7 no arrows: itself", itself, SIX, x -> x.descendants(itself));
            answers("6 hidden causes alone: itself", itself, FOUR_HIDDEN,
                    x -> x.ancestors(itself));
            answers("7 hidden causes alone: itself", itself, FOUR_HIDDEN,
                    x -> x.descendants(itself));
            answers("6 all arrows: itself and the lower ones", 2 * itself - 1, ALL_FIFTEEN,
                    x -> x.ancestors(itself));
            answers("7 all arrows: itself and the higher ones", 64 - itself, ALL_FIFTEEN,
                    x -> x.descendants(itself));
        }
    }

    private static void districtNumbers() {
        refusesVariables("8 district", 6, FOUR_HIDDEN, (x, number) -> x.district(number, 63));
        refusesVariables("8 ahead of the set: district", 6, FOUR_HIDDEN,
                (x, number) -> x.district(number, 64));
        refusesVariables("8 ahead of not in it: district", 6, FOUR_HIDDEN,
                (x, number) -> x.district(number, 0));
        refusesSets("8 district within", 6, FOUR_HIDDEN, (x, set) -> x.district(0, set));
        for (int variable = 0; variable < 6; variable++) {
            int itself = variable;
            int alone = 1 << variable;
            answers("8 within itself alone", alone, FOUR_HIDDEN, x -> x.district(itself, alone));
            refuses("8 within all but itself, " + itself, WRONG, FOUR_HIDDEN,
                    x -> x.district(itself, 63 - alone));
            refuses("8 within nothing, " + itself, WRONG, FOUR_HIDDEN,
                    x -> x.district(itself, 0));
            answers("8 without hidden causes", alone, ALL_FIFTEEN, x -> x.district(itself, 63));
        }
    }

    private static void districtsOfFewAndAll() {
        for (int variable = 0; variable < 5; variable++) {
            int one = variable;
            answers("8 as great as can be, from " + one, 0b011111, FOUR_HIDDEN,
                    x -> x.district(one, 63));
        }
        answers("8 the one without", 0b100000, FOUR_HIDDEN, x -> x.district(5, 63));
        answers("8 the lower side of a gap", 0b000011, FOUR_HIDDEN,
                x -> x.district(0, 0b111011));
        answers("8 the upper side of a gap", 0b011000, FOUR_HIDDEN,
                x -> x.district(4, 0b111011));
        answers("8 two ends without their midst", 0b000001, FOUR_HIDDEN,
                x -> x.district(0, 0b010001));
        answers("8 four of the same two", 0b000011, FOUR_ALIKE, x -> x.district(1, 63));
        answers("8 four of the same two without one", 0b000001, FOUR_ALIKE,
                x -> x.district(0, 0b111101));
        answers("8 the last hidden cause leads to the first", 0b011111,
                () -> Courts.hiding(Courts.of(6), 3, 4, 2, 3, 1, 2, 0, 1),
                x -> x.district(4, 63));
        answers("8 four of one variable", 0b011111,
                () -> Courts.hiding(Courts.of(6), 0, 1, 0, 2, 0, 3, 0, 4), x -> x.district(4, 63));
    }
}
