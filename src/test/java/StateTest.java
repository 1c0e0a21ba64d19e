import java.util.ArrayList;
import java.util.List;

/** All promises: a call that throws changes nothing, and asking changes nothing either. */
final class StateTest {
    private static final int[] ODD = {Integer.MIN_VALUE, -65, -1, 0, 1, 2, 3, 5, 6, 7, 16, 63, 64,
        65, 65535, 65536, Integer.MAX_VALUE};

    private static Expect expect;

    public static void main(String[] args) {
        expect = new Expect("StateTest");
        throwing(false);
        throwing(true);
        oddArguments();
        expect.close();
    }

    private static EffectCourt made(boolean hidden) {
        EffectCourt x = new EffectCourt();
        for (int count = 0; count < 6; count++) {
            x.variable();
        }
        x.arrow(0, 1);
        x.arrow(1, 2);
        x.arrow(5, 2);
        for (int count = 0; hidden && count < 4; count++) {
            x.hide(count, count + 1);
        }
        x.setBits(1, 6);
        x.setBits(2, 0b1001);
        return x;
    }

    /** What an object tells of its graph, its world and its class. */
    private static List<Object> picture(EffectCourt x) {
        List<Object> told = new ArrayList<>();
        for (int variable = 0; variable < 6; variable++) {
            told.add(x.ancestors(1 << variable));
            told.add(x.rows(variable));
            told.add(x.district(variable, 63));
        }
        for (int values = 0; values < 8; values++) {
            told.add(x.chance(7, values));
        }
        told.add(x.pathLength(0, 2, 0));
        told.add(x.adjustments(1, 2));
        told.add(x.meanParents());
        told.add(x.identifiedShare());
        return told;
    }

    private static void throwing(boolean hidden) {
        EffectCourt x = made(hidden);
        List<Object> want = picture(made(hidden));
        Class<?> state = IllegalStateException.class;
        expect.is("2 variable()", state, () -> x.variable());
        expect.is("3 arrow(0, 1)", state, () -> x.arrow(0, 1));
        expect.is("3 arrow(2, 0)", IllegalArgumentException.class, () -> x.arrow(2, 0));
        expect.is("4 remove(1, 0)", java.util.NoSuchElementException.class,
                () -> x.remove(1, 0));
        expect.is("5 hide(1, 1)", IllegalArgumentException.class, () -> x.hide(1, 1));
        if (hidden) {
            expect.is("5 hide(0, 5)", state, () -> x.hide(0, 5));
            expect.is("27 graphs()", UnsupportedOperationException.class, () -> x.graphs());
        }
        expect.is("16 setBits(1, 65536)", IllegalArgumentException.class,
                () -> x.setBits(1, 65536));
        expect.is("13 barredBy(1, 1)", IllegalArgumentException.class, () -> x.barredBy(1, 1));
        expect.is("all is as it was", want, () -> picture(x));
        expect.is("and still is when asked again", want, () -> picture(x));
        expect.is("16 setBits(1, 6)", 6, () -> x.setBits(1, 6));
        expect.is("3 arrow(0, 2) is the fourth", 4, () -> x.arrow(0, 2));
    }

    /** Whatever comes in, only what the document names goes out. */
    private static void oddArguments() {
        for (int a : ODD) {
            for (int b : ODD) {
                EffectCourt x = made(b > 5);
                for (int c : ODD) {
                    odd(x, a, b, c);
                }
            }
        }
    }

    private static void odd(EffectCourt x, int a, int b, int c) {
        String call = " with " + a + ", " + b + ", " + c;
        only("ancestors" + call, "IA", () -> x.ancestors(a));
        only("district" + call, "IO IA", () -> x.district(a, b));
        only("areSeparated" + call, "IO IA", () -> x.areSeparated(a, b, c));
        only("pathLength" + call, "IO IA NS", () -> x.pathLength(a, b, c));
        only("pathAt" + call, "IO IA NS", () -> x.pathAt(a, b, c, a ^ c));
        only("isIdentified" + call, "IA", () -> x.isIdentified(a, b));
        only("barredBy" + call, "IA NS", () -> x.barredBy(a, b));
        only("effect" + call, "IA UO", () -> x.effect(a, c, b, a & b));
        only("trueEffect" + call, "IA", () -> x.trueEffect(a, a, b, c));
        only("rows" + call, "IO", () -> x.rows(a));
        only("chance" + call, "IA", () -> x.chance(a, b));
        only("chanceIf" + call, "IA", () -> x.chanceIf(a, b, c, 0));
        only("areIndependent" + call, "IO IA", () -> x.areIndependent(a, b, c));
        only("adjusts" + call, "IO IA", () -> x.adjusts(a, b, c));
        only("adjustments" + call, "IO IA", () -> x.adjustments(a, b));
        only("adjustmentAt" + call, "IO IA NS", () -> x.adjustmentAt(a, b, c));
        only("adjusted" + call, "IO IA NS", () -> x.adjusted(a, b, c));
        only("isFront" + call, "IO IA", () -> x.isFront(a, b, c));
        only("isInstrument" + call, "IO IA", () -> x.isInstrument(a, b, c));
        only("told" + call, "IO IA UO", () -> x.told(a, b));
        only("isSame" + call, "IA", () -> x.isSame(a, b));
    }

    private static void only(String call, String allowed, java.util.function.Supplier<Object> asked) {
        expect.is(call, true, () -> {
            try {
                asked.get();
                return true;
            } catch (IndexOutOfBoundsException thrown) {
                // The machine's own kinds stand below the document's one.
                return thrown.getClass() == IndexOutOfBoundsException.class
                        && allowed.contains("IO");
            } catch (IllegalArgumentException thrown) {
                return thrown.getClass() == IllegalArgumentException.class
                        && allowed.contains("IA");
            } catch (java.util.NoSuchElementException thrown) {
                return allowed.contains("NS");
            } catch (UnsupportedOperationException thrown) {
                return allowed.contains("UO");
            }
        });
    }
}
