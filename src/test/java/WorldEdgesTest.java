import java.util.function.Supplier;

/** Promises 16 to 20 at their edges. */
final class WorldEdgesTest extends Edges {
    private static final Supplier<EffectCourt> SIX = () -> Courts.of(6);
    private static final Supplier<EffectCourt> CHAIN = () -> Courts.chain(6);
    private static final Supplier<EffectCourt> ALL_FIFTEEN =
            () -> Courts.withBits(Courts.all(6), 1, 2, 9, 0x96, 0x6996, 0xC35A);
    private static final Supplier<EffectCourt> FOUR_ALIKE =
            () -> Courts.hiding(Courts.of(3, 0, 1), 1, 2, 2, 1, 1, 2, 2, 1);

    public static void main(String[] args) {
        expect = new Expect("WorldEdgesTest");
        bitsInAndOut();
        bitsStay();
        rowsFromOneOn();
        eachPlaceOfTheBits();
        rowsPastTheSixteenth();
        chanceSets();
        chancesOfFewAndAll();
        chanceIfSets();
        chancesIfFewAndAll();
        independenceNumbers();
        independenceOfFewAndAll();
        expect.close();
    }

    private static void bitsInAndOut() {
        refusesVariables("16 setBits", 6, SIX, (x, number) -> x.setBits(number, 0));
        refusesVariables("16 ahead of the bits: setBits", 6, SIX,
                (x, number) -> x.setBits(number, 65536));
        refusesVariables("16 setBits without variables", 0, EffectCourt::new,
                (x, number) -> x.setBits(number, 0));
        for (int bits : new int[] {LEAST, -1, 65536, 65537, 131071, GREATEST}) {
            refuses("16 bits " + bits, WRONG, SIX, x -> x.setBits(0, bits));
            refuses("16 bits " + bits + " of the last one", WRONG, ALL_FIFTEEN,
                    x -> x.setBits(5, bits));
        }
        for (int variable = 0; variable < 6; variable++) {
            int asked = variable;
            EffectCourt x = SIX.get();
            expect.is("16 bits 0 at first", 0, () -> x.setBits(asked, 65535));
            expect.is("16 bits 65535", 65535, () -> x.setBits(asked, 0));
            expect.is("16 bits 0", 0, () -> x.setBits(asked, 1));
            expect.is("16 bits 1", 1, () -> x.setBits(asked, 65534));
            expect.is("16 bits 65534 once more", 65534, () -> x.setBits(asked, 65534));
            expect.is("16 bits 65534", 65534, () -> x.setBits(asked, 0));
        }
    }

    private static void bitsStay() {
        EffectCourt x = Courts.withBits(Courts.of(5), 1, 2, 3, 4, 65535);
        x.arrow(4, 0);
        x.hide(0, 4);
        expect.is("2 a sixth variable", 5, () -> x.variable());
        x.remove(4, 0);
        int[] due = {1, 2, 3, 4, 65535, 0};
        for (int variable = 0; variable < 6; variable++) {
            int asked = variable;
            expect.is("16 the bits of " + variable + " stay", due[variable],
                    () -> x.setBits(asked, 7));
        }
    }

    private static void rowsFromOneOn() {
        refusesVariables("17 rows", 6, ALL_FIFTEEN, (x, number) -> x.rows(number));
        EffectCourt x = Courts.all(6);
        for (int variable = 0; variable < 6; variable++) {
            int asked = variable;
            answers("17 no arrows: the one row of " + asked, 1, SIX, y -> y.rows(asked));
            expect.is("17 all arrows: rows of " + asked, 1 << asked, () -> x.rows(asked));
        }
        for (int number = 0; number < 4; number++) {
            x.hide(5, number % 2);
            expect.is("17 rows of 5 with hidden causes", 64 << number, () -> x.rows(5));
        }
        expect.is("17 rows of 0 with two of them", 4, () -> x.rows(0));
        expect.is("17 rows of 1 with two of them", 8, () -> x.rows(1));
        expect.is("17 rows of 2 with none", 4, () -> x.rows(2));
        answers("17 four of the same two", 32, FOUR_ALIKE, y -> y.rows(1));
    }

    /** With four parents there is a row for each of the sixteen places and no more. */
    private static void eachPlaceOfTheBits() {
        for (int place = 0; place < 16; place++) {
            int row = place;
            Supplier<EffectCourt> x = () -> Courts.withBits(
                    Courts.of(5, 0, 4, 1, 4, 2, 4, 3, 4), 0, 0, 0, 0, 1 << row);
            answers("18 only place " + row + " is 1, in its row", Share.of(2, 3).told(), x,
                    y -> y.chanceIf(16, 16, 15, row));
            answers("18 only place " + row + " is 1, in the row ahead", Share.of(1, 3).told(), x,
                    y -> y.chanceIf(16, 16, 15, (row + 15) % 16));
            answers("18 only place " + row + " is 1, in the row behind", Share.of(1, 3).told(), x,
                    y -> y.chanceIf(16, 16, 15, (row + 1) % 16));
        }
        for (int variable = 0; variable < 6; variable++) {
            int one = 1 << variable;
            answers("18 bits 0", Share.of(1, 3).told(), SIX, x -> x.chance(one, one));
            answers("18 bits 65535", Share.of(2, 3).told(), () -> Courts.withBits(Courts.all(6),
                    65535, 65535, 65535, 65535, 65535, 65535), x -> x.chance(one, one));
        }
    }

    private static void rowsPastTheSixteenth() {
        for (int given = 0; given < 32; given++) {
            int row = given;
            answers("18 place 15 in row " + row, Share.of(row % 16 == 15 ? 2 : 1, 3).told(),
                    () -> fiveParents(32768), x -> x.chanceIf(32, 32, 31, row));
            answers("18 place 0 in row " + row, Share.of(row % 16 == 0 ? 2 : 1, 3).told(),
                    () -> fiveParents(1), x -> x.chanceIf(32, 32, 31, row));
            answers("18 bits 65535 in row " + row, Share.of(2, 3).told(),
                    () -> fiveParents(65535), x -> x.chanceIf(32, 32, 31, row));
            answers("18 place 15 of 512 rows, parents " + row,
                    Share.of(row % 16 == 15 ? 2 : 1, 3).told(),
                    () -> Courts.hiding(fiveParents(32768), 5, 0, 5, 0, 5, 0, 5, 0),
                    x -> x.chanceIf(32, 32, 31, row));
        }
        Supplier<EffectCourt> last = () -> Courts.withBits(FOUR_ALIKE.get(), 0, 32768);
        answers("18 the fourth hidden cause counts 16: no place of its own", Share.of(3, 8).told(),
                last, x -> x.chanceIf(2, 2, 1, 1));
        answers("18 place 15 needs the parent", Share.of(1, 3).told(), last,
                x -> x.chanceIf(2, 2, 1, 0));
        answers("18 rows 16 to 31 with bits 65535", Share.of(2, 3).told(),
                () -> Courts.withBits(FOUR_ALIKE.get(), 0, 65535), x -> x.chance(2, 2));
    }

    private static EffectCourt fiveParents(int bits) {
        return Courts.withBits(Courts.of(6, 0, 5, 1, 5, 2, 5, 3, 5, 4, 5), 0, 0, 0, 0, 0, bits);
    }

    private static void chanceSets() {
        refusesSets("18 chance", 6, ALL_FIFTEEN, (x, set) -> x.chance(set, 0));
        refusesSets("18 chance of two", 2, () -> Courts.of(2), (x, set) -> x.chance(set, 0));
        refusesSets("18 values of the empty set", 0, ALL_FIFTEEN, (x, each) -> x.chance(0, each));
        refusesSets("18 values of all", 6, ALL_FIFTEEN, (x, each) -> x.chance(63, each));
        for (int variable = 0; variable < 6; variable++) {
            int one = 1 << variable;
            refuses("18 values of all others", WRONG, ALL_FIFTEEN, x -> x.chance(63 - one, one));
            refuses("18 values of all, of itself alone", WRONG, ALL_FIFTEEN,
                    x -> x.chance(one, 63));
        }
        refuses("18 no such set, though its values are its own", WRONG, ALL_FIFTEEN,
                x -> x.chance(64, 64));
    }

    private static void chancesOfFewAndAll() {
        answers("18 the empty set of no variables", 1, EffectCourt::new, x -> x.chance(0, 0));
        answers("18 the empty set of six", 1, ALL_FIFTEEN, x -> x.chance(0, 0));
        answers("18 one third", 666669, () -> Courts.of(1), x -> x.chance(1, 1));
        answers("18 two thirds", 333335, () -> Courts.of(1), x -> x.chance(1, 0));
        answers("18 all six at 1", Share.of(1, 729).told(), SIX, x -> x.chance(63, 63));
        answers("18 all six at 0", Share.of(64, 729).told(), SIX, x -> x.chance(63, 0));
        answers("18 all six with four hidden causes", Share.of(1, 729).told(),
                () -> Courts.hiding(Courts.of(6), 0, 1, 0, 2, 0, 3, 0, 4), x -> x.chance(63, 63));
        int sum = 0;
        EffectCourt x = Courts.hiding(ALL_FIFTEEN.get(), 0, 5, 1, 5, 2, 4, 0, 5);
        for (int values = 0; values < 64; values++) {
            sum += x.chance(63, values);
        }
        int whole = sum;
        expect.is("18 all chances together", 1, () -> whole % 1000003);
    }

    private static void chanceIfSets() {
        refusesSets("19 chanceIf", 6, ALL_FIFTEEN, (x, set) -> x.chanceIf(set, 0, 0, 0));
        refusesSets("19 chanceIf given", 6, ALL_FIFTEEN, (x, set) -> x.chanceIf(0, 0, set, 0));
        refusesSets("19 values", 6, ALL_FIFTEEN, (x, each) -> x.chanceIf(7, each, 56, 0));
        refusesSets("19 given values", 6, ALL_FIFTEEN, (x, each) -> x.chanceIf(7, 0, 56, each));
        refuses("19 values of the other set", WRONG, ALL_FIFTEEN, x -> x.chanceIf(7, 8, 56, 8));
        refuses("19 given values of the set", WRONG, ALL_FIFTEEN, x -> x.chanceIf(7, 1, 56, 1));
        refuses("19 values of the empty set", WRONG, ALL_FIFTEEN, x -> x.chanceIf(0, 1, 1, 1));
        refuses("19 given values of the empty set", WRONG, ALL_FIFTEEN,
                x -> x.chanceIf(1, 1, 0, 1));
        refuses("19 one in common", WRONG, ALL_FIFTEEN, x -> x.chanceIf(7, 0, 12, 0));
        refuses("19 a set and itself", WRONG, ALL_FIFTEEN, x -> x.chanceIf(1, 1, 1, 1));
        refuses("19 all in common", WRONG, ALL_FIFTEEN, x -> x.chanceIf(63, 63, 63, 63));
    }

    private static void chancesIfFewAndAll() {
        answers("19 both empty, no variables", 1, EffectCourt::new, x -> x.chanceIf(0, 0, 0, 0));
        answers("19 both empty", 1, ALL_FIFTEEN, x -> x.chanceIf(0, 0, 0, 0));
        answers("19 nothing asked, all given", 1, ALL_FIFTEEN, x -> x.chanceIf(0, 0, 63, 42));
        answers("19 all asked, nothing given", Share.of(2, 729).told(), SIX,
                x -> x.chanceIf(63, 62, 0, 0));
        answers("19 the last one if all others are 0", Share.of(1, 3).told(), CHAIN,
                x -> x.chanceIf(32, 32, 31, 0));
        answers("19 all others if the last one is 1", Share.of(1, 243).told(), CHAIN,
                x -> x.chanceIf(31, 31, 32, 32));
        answers("19 half to half", Share.of(1, 27).told(), SIX, x -> x.chanceIf(7, 7, 56, 0));
    }

    private static void independenceNumbers() {
        for (int none : new int[] {LEAST, -32, -1, 6, 32, GREATEST}) {
            refuses("20 one " + none, RANGE, CHAIN, x -> x.areIndependent(none, 0, 0));
            refuses("20 other " + none, RANGE, CHAIN, x -> x.areIndependent(5, none, 0));
            refuses("20 ahead of the same " + none, RANGE, CHAIN,
                    x -> x.areIndependent(none, none, 0));
            refuses("20 ahead of the set " + none, RANGE, CHAIN,
                    x -> x.areIndependent(0, none, 64));
            refuses("20 ahead of one in it " + none, RANGE, CHAIN,
                    x -> x.areIndependent(0, none, 1));
        }
        refusesSets("20 areIndependent", 6, CHAIN, (x, set) -> x.areIndependent(2, 3, set));
        for (int variable = 0; variable < 6; variable++) {
            int same = variable;
            refuses("20 both are " + same, WRONG, CHAIN, x -> x.areIndependent(same, same, 0));
        }
        refuses("20 one in it", WRONG, CHAIN, x -> x.areIndependent(0, 5, 1));
        refuses("20 other in it", WRONG, CHAIN, x -> x.areIndependent(0, 5, 32));
        refuses("20 both in it", WRONG, CHAIN, x -> x.areIndependent(0, 5, 63));
        refuses("20 no variables", RANGE, EffectCourt::new, x -> x.areIndependent(0, 0, 0));
        refuses("20 one variable", WRONG, () -> Courts.of(1), x -> x.areIndependent(0, 0, 0));
    }

    private static void independenceOfFewAndAll() {
        answers("20 two variables", true, () -> Courts.of(2), x -> x.areIndependent(0, 1, 0));
        answers("20 bits 0: arrows without weight", true, CHAIN, x -> x.areIndependent(0, 1, 0));
        Supplier<EffectCourt> heavy =
                () -> Courts.withBits(Courts.chain(6), 2, 2, 2, 2, 2, 2);
        answers("20 the least and the greatest, nothing known", false, heavy,
                x -> x.areIndependent(0, 5, 0));
        answers("20 the greatest and the least, nothing known", false, heavy,
                x -> x.areIndependent(5, 0, 0));
        answers("20 the least and the greatest, all others known", true, heavy,
                x -> x.areIndependent(0, 5, 0b011110));
        answers("20 one of them known", true, heavy, x -> x.areIndependent(0, 5, 0b000100));
        for (int values = 0; values < 16; values++) {
            int only = values;
            answers("20 only at the values " + only + " of all others they are not", false,
                    () -> barredAt(only), x -> x.areIndependent(0, 5, 0b011110));
        }
    }

    /** 5 follows the hidden cause that it has with 0 only where the others have some values. */
    private static EffectCourt barredAt(int values) {
        EffectCourt court = Courts.hiding(Courts.of(6, 1, 5, 2, 5, 3, 5), 0, 5);
        int place = 8 + (values & 7);
        return Courts.withBits(court, 2, 0, 0, 0, 0, 1 << place);
    }
}
