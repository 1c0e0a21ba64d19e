import java.util.NoSuchElementException;

/** Promises 9 to 11: separation and the path that is told. */
final class SeparationTest {
    private static final Class<?> RANGE = IndexOutOfBoundsException.class;
    private static final Class<?> WRONG = IllegalArgumentException.class;
    private static final Class<?> ABSENT = NoSuchElementException.class;

    private static Expect expect;

    public static void main(String[] args) {
        expect = new Expect("SeparationTest");
        chainForkAndMeeting();
        hiddenCauses();
        whichPath();
        whichWay();
        whichWayIsOpen();
        wrongInputs();
        expect.close();
    }

    /** Compares all steps of the path, and that there is none ahead of and behind them. */
    private static void path(EffectCourt x, int one, int other, int set, int... steps) {
        String call = "(" + one + ", " + other + ", " + set + ")";
        expect.is("9 areSeparated" + call, steps.length == 0,
                () -> x.areSeparated(one, other, set));
        expect.is("10 pathLength" + call, steps.length == 0 ? ABSENT : (Object) steps.length,
                () -> x.pathLength(one, other, set));
        for (int index = 0; index < steps.length; index++) {
            int asked = index;
            expect.is("11 pathAt" + call + index, steps[index],
                    () -> x.pathAt(one, other, set, asked));
        }
        expect.is("11 pathAt behind " + call, ABSENT,
                () -> x.pathAt(one, other, set, steps.length));
        expect.is("11 pathAt ahead " + call, ABSENT, () -> x.pathAt(one, other, set, -1));
        expect.is("11 pathAt far behind " + call, ABSENT,
                () -> x.pathAt(one, other, set, Integer.MAX_VALUE));
        expect.is("11 pathAt far ahead " + call, ABSENT,
                () -> x.pathAt(one, other, set, Integer.MIN_VALUE));
    }

    private static void chainForkAndMeeting() {
        EffectCourt chain = Courts.of(3, 0, 1, 1, 2);
        path(chain, 0, 2, 0, 10, 20);
        path(chain, 2, 0, 0, 11, 1);
        path(chain, 0, 2, 0b010);
        EffectCourt fork = Courts.of(3, 1, 0, 1, 2);
        path(fork, 0, 2, 0, 11, 20);
        path(fork, 0, 2, 0b010);
        EffectCourt meeting = Courts.of(5, 0, 1, 2, 1, 1, 3, 3, 4);
        path(meeting, 0, 2, 0);
        path(meeting, 0, 2, 0b00010, 10, 21);
        path(meeting, 0, 2, 0b01000, 10, 21);
        path(meeting, 0, 2, 0b10000, 10, 21);
        path(meeting, 0, 4, 0, 10, 30, 40);
        path(meeting, 0, 4, 0b01000);
    }

    private static void hiddenCauses() {
        EffectCourt x = Courts.of(4, 0, 1);
        x.hide(1, 2);
        x.hide(2, 3);
        path(x, 0, 2, 0);
        path(x, 0, 2, 0b0010, 10, 22);
        path(x, 0, 3, 0b0010);
        path(x, 0, 3, 0b0110, 10, 22, 33);
        path(x, 1, 2, 0, 22);
        path(x, 3, 2, 0, 23);
        path(x, 1, 3, 0b0100, 22, 33);
        path(x, 1, 3, 0b0101, 22, 33);
    }

    private static void whichPath() {
        EffectCourt x = Courts.of(6, 0, 4, 4, 5, 0, 2, 2, 5, 0, 3, 3, 5, 0, 1);
        path(x, 0, 5, 0, 20, 50);
        path(x, 0, 5, 0b000100, 30, 50);
        path(x, 0, 5, 0b001100, 40, 50);
        path(x, 0, 5, 0b011100);
        path(x, 1, 5, 0, 1, 20, 50);
        x.arrow(1, 2);
        x.arrow(1, 5);
        path(x, 0, 5, 0, 10, 50);
        path(x, 1, 0, 0, 1);
        x.arrow(0, 5);
        path(x, 0, 5, 0, 50);
        path(x, 5, 0, 0b011110, 1);
    }

    private static void whichWay() {
        EffectCourt x = Courts.of(3, 0, 1, 1, 2);
        x.hide(1, 2);
        x.hide(0, 1);
        x.hide(0, 1);
        path(x, 0, 1, 0, 10);
        path(x, 1, 0, 0, 1);
        path(x, 0, 2, 0, 10, 20);
        x.remove(0, 1);
        path(x, 0, 1, 0, 13);
        path(x, 0, 2, 0, 13, 20);
        x.remove(1, 2);
        path(x, 2, 0, 0);
        path(x, 2, 0, 0b010, 12, 3);
    }

    /** The arrow goes ahead only where the whole path is open by it. */
    private static void whichWayIsOpen() {
        EffectCourt x = Courts.of(3, 1, 0, 1, 2);
        x.hide(0, 1);
        x.hide(1, 2);
        path(x, 0, 2, 0, 11, 20);
        path(x, 0, 2, 0b010, 12, 23);
        EffectCourt y = Courts.of(3, 0, 1, 1, 2);
        y.hide(2, 1);
        path(y, 0, 2, 0b010, 10, 22);
        EffectCourt z = Courts.of(4, 1, 0, 2, 1, 2, 3);
        z.hide(0, 1);
        path(z, 0, 3, 0, 11, 21, 30);
        path(z, 0, 3, 0b0010, 12, 21, 30);
    }

    private static void wrongInputs() {
        EffectCourt x = Courts.of(3, 0, 1);
        int[][] outside = {{-1, 0, 0}, {3, 0, 0}, {0, 3, 0}, {0, -1, 0}, {3, 3, 8}, {9, 0, -1}};
        for (int[] each : outside) {
            wrong(x, each, RANGE);
        }
        int[][] impossible = {{1, 1, 0}, {1, 1, 8}, {0, 2, 8}, {0, 2, -1}, {0, 2, 1}, {0, 2, 4},
            {0, 2, 5}, {0, 2, Integer.MIN_VALUE}};
        for (int[] each : impossible) {
            wrong(x, each, WRONG);
        }
    }

    private static void wrong(EffectCourt x, int[] of, Class<?> due) {
        String call = of[0] + ", " + of[1] + ", " + of[2];
        expect.is("9 areSeparated " + call, due, () -> x.areSeparated(of[0], of[1], of[2]));
        expect.is("10 pathLength " + call, due, () -> x.pathLength(of[0], of[1], of[2]));
        expect.is("11 pathAt " + call, due, () -> x.pathAt(of[0], of[1], of[2], 9));
    }
}
