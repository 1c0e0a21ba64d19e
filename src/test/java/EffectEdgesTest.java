import java.util.function.Supplier;

/** Promises 12 to 15 and 29 at their edges. */
final class EffectEdgesTest extends Edges {
    private static final int[] NO_SETS = {LEAST, -1, 64, 65, 128, GREATEST};
    private static final Supplier<EffectCourt> CHAIN = () -> Courts.chain(6);
    private static final Supplier<EffectCourt> ALL_FIFTEEN =
            () -> Courts.withBits(Courts.all(6), 1, 2, 9, 0x96, 0x6996, 0xC35A);
    private static final Supplier<EffectCourt> BOW = () -> Courts.hiding(Courts.of(2, 0, 1), 0, 1);
    private static final Supplier<EffectCourt> FOUR_BOWS =
            () -> Courts.hiding(Courts.chain(6), 0, 1, 1, 2, 2, 3, 3, 4);

    public static void main(String[] args) {
        expect = new Expect("EffectEdgesTest");
        sets();
        emptySets();
        commonVariables();
        values();
        fewVariables();
        nothingDone();
        allOthers();
        noHiddenCauses();
        barredAtOnce();
        narrowedOnce();
        narrowedTwice();
        theFirstDistrict();
        notIdentified();
        whatIsDone();
        expect.close();
    }

    /** The five calls that take two sets, all values 0. */
    private static void refusesAll(String name, Class<?> due, Supplier<EffectCourt> made, int from,
            int on) {
        String call = name + ": (" + from + ", " + on + ")";
        refuses("12 " + call, due, made, x -> x.isIdentified(from, on));
        refuses("13 " + call, due, made, x -> x.barredBy(from, on));
        refuses("14 " + call, due, made, x -> x.effect(from, 0, on, 0));
        refuses("15 " + call, due, made, x -> x.trueEffect(from, 0, on, 0));
        refuses("29 " + call, due, made, x -> x.isSame(from, on));
    }

    private static void found(String name, Supplier<EffectCourt> made, int from, int on) {
        String call = name + ": (" + from + ", " + on + ")";
        answers("12 " + call, true, made, x -> x.isIdentified(from, on));
        refuses("13 " + call, ABSENT, made, x -> x.barredBy(from, on));
        answers("14 " + call, made.get().trueEffect(from, from, on, on), made,
                x -> x.effect(from, from, on, on));
        answers("29 " + call, true, made, x -> x.isSame(from, on));
    }

    private static void barred(String name, Supplier<EffectCourt> made, int from, int on,
            int barrier) {
        String call = name + ": (" + from + ", " + on + ")";
        answers("12 " + call, false, made, x -> x.isIdentified(from, on));
        answers("13 " + call, barrier, made, x -> x.barredBy(from, on));
        refuses("14 " + call, NOT_DONE, made, x -> x.effect(from, from, on, on));
        answers("29 " + call, true, made, x -> x.isSame(from, on));
    }

    private static void sets() {
        for (int set : NO_SETS) {
            refusesAll("no such first set", WRONG, CHAIN, set, 2);
            refusesAll("no such second set", WRONG, CHAIN, 2, set);
            refusesAll("no such second set, nothing done", WRONG, CHAIN, 0, set);
        }
        refusesAll("the third of two", WRONG, BOW, 4, 1);
        refusesAll("on the third of two", WRONG, BOW, 1, 4);
        found("the least and the greatest variable", CHAIN, 1, 32);
        found("the greatest and the least variable", CHAIN, 32, 1);
    }

    private static void emptySets() {
        refusesAll("both empty", WRONG, CHAIN, 0, 0);
        for (int from : new int[] {1, 32, 62, 63}) {
            refusesAll("the second empty", WRONG, CHAIN, from, 0);
        }
        refusesAll("the second empty where it would be barred", WRONG, FOUR_BOWS, 1, 0);
        found("the first empty, one", CHAIN, 0, 1);
        found("the first empty, all", CHAIN, 0, 63);
    }

    private static void commonVariables() {
        refusesAll("one and itself", WRONG, CHAIN, 1, 1);
        refusesAll("all and all", WRONG, CHAIN, 63, 63);
        refusesAll("all and one", WRONG, CHAIN, 63, 32);
        refusesAll("one and all", WRONG, CHAIN, 1, 63);
        refusesAll("one of many in common", WRONG, CHAIN, 0b001111, 0b111000);
        refusesAll("in common where it would be barred", WRONG, FOUR_BOWS, 1, 3);
        found("nothing in common, side by side", CHAIN, 0b000111, 0b111000);
    }

    private static void values() {
        int from = 0b000011;
        int on = 0b110000;
        for (int none : new int[] {LEAST, -1, 4, 7, 16, 64, GREATEST}) {
            refuses("14 first values " + none, WRONG, CHAIN, x -> x.effect(from, none, on, 0));
            refuses("15 first values " + none, WRONG, CHAIN, x -> x.trueEffect(from, none, on, 0));
        }
        for (int none : new int[] {LEAST, -1, 1, 8, 49, 64, GREATEST}) {
            refuses("14 second values " + none, WRONG, CHAIN, x -> x.effect(from, 0, on, none));
            refuses("15 second values " + none, WRONG, CHAIN,
                    x -> x.trueEffect(from, 0, on, none));
        }
        refuses("14 values of nothing done", WRONG, CHAIN, x -> x.effect(0, 1, 2, 0));
        refuses("15 values of nothing done", WRONG, CHAIN, x -> x.trueEffect(0, 1, 2, 0));
        int[] ninths = {4, 2, 2, 1};
        for (int number = 0; number < 4; number++) {
            int given = number;
            int asked = number << 4;
            int due = Share.of(ninths[number], 9).told();
            answers("14 values " + given + ", " + asked, due, CHAIN,
                    x -> x.effect(from, given, on, asked));
            answers("15 values " + given + ", " + asked, due, CHAIN,
                    x -> x.trueEffect(from, given, on, asked));
        }
    }

    private static void fewVariables() {
        refusesAll("no variables", WRONG, EffectCourt::new, 0, 0);
        refusesAll("no variables, but one asked", WRONG, EffectCourt::new, 0, 1);
        refusesAll("no variables, but one done", WRONG, EffectCourt::new, 1, 0);
        refusesAll("one variable, done and asked", WRONG, () -> Courts.of(1), 1, 1);
        refusesAll("one variable, nothing asked", WRONG, () -> Courts.of(1), 1, 0);
        found("one variable", () -> Courts.of(1), 0, 1);
        answers("14 one variable at 1", Share.of(1, 3).told(), () -> Courts.of(1),
                x -> x.effect(0, 0, 1, 1));
        answers("14 one variable at 0", Share.of(2, 3).told(), () -> Courts.of(1),
                x -> x.effect(0, 0, 1, 0));
        found("two variables apart", () -> Courts.of(2), 1, 2);
        found("two variables with hidden causes alone",
                () -> Courts.hiding(Courts.of(2), 0, 1, 0, 1, 0, 1, 0, 1), 1, 2);
    }

    /** With nothing done all is as it is seen, whatever is hidden. */
    private static void nothingDone() {
        EffectCourt x = Courts.withBits(FOUR_BOWS.get(), 2, 9, 0x69, 0x96, 6, 2);
        for (int on = 1; on < 64; on++) {
            int asked = on;
            int values = on & 0b101101;
            int due = x.chance(on, values);
            expect.is("12 nothing done, on " + on, true, () -> x.isIdentified(0, asked));
            expect.is("14 nothing done, on " + on, due, () -> x.effect(0, 0, asked, values));
            expect.is("15 nothing done, on " + on, due, () -> x.trueEffect(0, 0, asked, values));
        }
        refuses("13 nothing done", ABSENT, FOUR_BOWS, y -> y.barredBy(0, 63));
    }

    private static void allOthers() {
        for (int variable = 0; variable < 6; variable++) {
            int one = 1 << variable;
            found("all others done", ALL_FIFTEEN, 63 - one, one);
            found("all others asked", ALL_FIFTEEN, one, 63 - one);
        }
        Supplier<EffectCourt> chain = () -> Courts.withBits(Courts.chain(6), 0, 0, 0, 0, 0, 2);
        answers("14 all others done, the parent 1", Share.of(2, 3).told(), chain,
                x -> x.effect(31, 16, 32, 32));
        answers("14 all others done, the parent 0", Share.of(1, 3).told(), chain,
                x -> x.effect(31, 15, 32, 32));
    }

    private static void noHiddenCauses() {
        int sum = 0;
        EffectCourt x = ALL_FIFTEEN.get();
        for (int values = 0; values < 32; values++) {
            int asked = values << 1;
            sum += x.effect(1, 1, 62, asked);
            expect.is("14 on all others at " + asked, x.trueEffect(1, 1, 62, asked),
                    () -> x.effect(1, 1, 62, asked));
        }
        int whole = sum;
        expect.is("14 all effects together", 1, () -> whole % 1000003);
        for (int from = 0; from < 63; from++) {
            int done = from;
            answers("12 no hidden causes, from " + from, true, ALL_FIFTEEN,
                    y -> y.isIdentified(done, 63 - done));
        }
    }

    private static void barredAtOnce() {
        barred("the bow", BOW, 1, 2, 3);
        found("the bow the other way", BOW, 2, 1);
        barred("a bow of four hidden causes",
                () -> Courts.hiding(Courts.of(2, 1, 0), 0, 1, 1, 0, 0, 1, 1, 0), 2, 1, 3);
        barred("the greatest district that can be", FOUR_BOWS, 1, 32, 0b011111);
        barred("all but the first one asked", FOUR_BOWS, 1, 62, 0b011111);
        barred("the last bow", FOUR_BOWS, 0b001000, 0b010000, 0b011111);
        found("the last one, with no hidden cause", FOUR_BOWS, 0b010000, 0b100000);
        found("a hidden cause with a variable that is not done",
                () -> Courts.hiding(Courts.of(3, 0, 1, 1, 2), 1, 2), 1, 4);
    }

    /** 1 leads to 3 to 0; 2 falls away at first, and with it what joins 3 to the rest. */
    private static EffectCourt narrowing(int... more) {
        EffectCourt court = Courts.hiding(Courts.of(4, 3, 0, 1, 3), 0, 1, 0, 2, 2, 3);
        for (int number = 0; number + 1 < more.length; number += 2) {
            court.arrow(more[number], more[number + 1]);
        }
        return Courts.withBits(court, 0b10, 0b10, 0b1000, 0b0110);
    }

    private static void narrowedOnce() {
        Supplier<EffectCourt> once = () -> narrowing();
        found("narrowed once", once, 0b1000, 0b0001);
        answers("14 narrowed once, at 1", Share.of(5, 12).told(), once, x -> x.effect(8, 8, 1, 1));
        answers("14 narrowed once, at 0", Share.of(1, 3).told(), once, x -> x.effect(8, 0, 1, 1));
        found("narrowed once, two done", once, 0b1010, 0b0001);
        Supplier<EffectCourt> turned = () -> narrowingUpsideDown();
        found("narrowed once, upside down", turned, 0b0001, 0b1000);
        answers("14 narrowed once, upside down, at 1", Share.of(5, 12).told(), turned,
                x -> x.effect(1, 1, 8, 8));
        answers("14 narrowed once, upside down, at 0", Share.of(1, 3).told(), turned,
                x -> x.effect(1, 0, 8, 8));
        Supplier<EffectCourt> arrow = () -> narrowing(1, 0);
        found("narrowed once to two that are asked for", arrow, 0b1000, 0b0001);
        barred("narrowed once, then barred", arrow, 0b1010, 0b0001, 0b0011);
    }

    /** The same with the numbers the other way: 0 is on the way, and 1 falls away at first. */
    private static EffectCourt narrowingUpsideDown() {
        EffectCourt court = Courts.hiding(Courts.of(4, 0, 3, 2, 0), 3, 2, 3, 1, 1, 0);
        return Courts.withBits(court, 0b0110, 0b1000, 0b10, 0b10);
    }

    /** 3 falls away at first and with it 2, then 1 and with it 4. */
    private static EffectCourt narrowingTwice() {
        EffectCourt court = Courts.hiding(Courts.of(5, 2, 0, 1, 2, 4, 0), 0, 3, 3, 2, 0, 1, 1, 4);
        return Courts.withBits(court, 0b1000, 0b0110, 0b0110, 0b1000, 0b10);
    }

    private static void narrowedTwice() {
        Supplier<EffectCourt> twice = () -> narrowingTwice();
        found("narrowed twice", twice, 0b10100, 0b00001);
        answers("14 narrowed twice, both at 1", Share.of(5, 12).told(), twice,
                x -> x.effect(20, 20, 1, 1));
        answers("14 narrowed twice, one at 1", Share.of(1, 3).told(), twice,
                x -> x.effect(20, 4, 1, 1));
        Supplier<EffectCourt> arrow = () -> {
            EffectCourt court = narrowingTwice();
            court.arrow(1, 0);
            return court;
        };
        barred("narrowed once where the second time is barred", arrow, 0b10100, 0b00001, 0b10011);
    }

    private static void theFirstDistrict() {
        Supplier<EffectCourt> two = () -> Courts.hiding(Courts.of(5, 1, 2, 3, 4), 3, 4, 1, 2);
        barred("the lowest is found, the next two are not", two, 0b01010, 0b10101, 0b00110);
        barred("the lowest two are found", two, 0b01000, 0b10101, 0b11000);
        barred("the higher one alone", two, 0b01010, 0b10001, 0b11000);
        found("neither bow done", two, 0b00001, 0b10100);
        Supplier<EffectCourt> crossed = () -> Courts.hiding(Courts.of(4, 3, 0, 1, 2), 1, 2, 3, 0);
        barred("the lowest variable of what is to be found, not of T", crossed, 0b1010, 0b0101,
                0b1001);
    }

    private static void notIdentified() {
        for (int values = 0; values < 4; values++) {
            int from = values & 1;
            int on = values & 2;
            refuses("14 the bow at " + from + ", " + on, NOT_DONE, BOW,
                    x -> x.effect(1, from, 2, on));
            answers("15 the bow at " + from + ", " + on, Share.of(on == 0 ? 2 : 1, 3).told(), BOW,
                    x -> x.trueEffect(1, from, 2, on));
        }
        for (int none : new int[] {LEAST, -1, 2, GREATEST}) {
            refuses("14 ahead of not identified: first values " + none, WRONG, BOW,
                    x -> x.effect(1, none, 2, 0));
        }
        for (int none : new int[] {LEAST, -1, 1, GREATEST}) {
            refuses("14 ahead of not identified: second values " + none, WRONG, BOW,
                    x -> x.effect(1, 0, 2, none));
        }
        refuses("14 ahead of not identified: a set", WRONG, BOW, x -> x.effect(1, 0, 6, 0));
        refuses("13 ahead of identified: a set", WRONG, CHAIN, x -> x.barredBy(0, 64));
    }

    /** What is done has its values whatever leads there; what leads there stays as it is. */
    private static void whatIsDone() {
        Supplier<EffectCourt> x = () -> Courts.withBits(
                Courts.hiding(Courts.of(3, 0, 1, 1, 2), 0, 1), 0b10, 0b1000, 0b10);
        answers("15 no effect back on a parent", Share.of(1, 2).told(), x,
                y -> y.trueEffect(2, 2, 1, 1));
        answers("14 no effect back on a parent", Share.of(1, 2).told(), x,
                y -> y.effect(2, 2, 1, 1));
        answers("19 what is seen does tell of the parent", Share.of(5, 8).told(), x,
                y -> y.chanceIf(1, 1, 2, 2));
        answers("15 on what comes of it", Share.of(2, 3).told(), x,
                y -> y.trueEffect(2, 2, 4, 4));
        answers("15 with the parent asked too", Share.of(1, 3).told(), x,
                y -> y.trueEffect(2, 2, 5, 5));
    }
}
