import java.util.ArrayList;
import java.util.List;
import java.util.function.Supplier;

/** What an object tells of its graph, its world and its class; asking leaves it as it was. */
final class Picture {
    /** No picture takes more calls than this. */
    static final int MOST_CALLS = 160;

    private Picture() {
    }

    static List<Object> of(EffectCourt x) {
        List<Object> told = new ArrayList<>();
        int size = sizeOf(x);
        int all = (1 << size) - 1;
        for (int values = 0; values <= all; values++) {
            told.add(x.chance(all, values));
        }
        for (int one = 0; one < size; one++) {
            told.add(x.rows(one));
            told.add(x.ancestors(1 << one));
            told.add(x.descendants(1 << one));
            told.add(x.district(one, all));
            for (int other = one + 1; other < size; other++) {
                int from = one;
                int to = other;
                told.add(answer(() -> x.pathAt(from, to, 0, 0)));
            }
        }
        told.add(answer(() -> x.told(0, 1)));
        told.add(answer(() -> x.graphs()));
        told.add(answer(() -> x.adjustments(0, 1)));
        told.add(answer(() -> x.identifiedShare()));
        told.add(answer(() -> x.meanParents()));
        addBits(x, size, told);
        return told;
    }

    /** Only a change tells the bits; it comes last, so that it can't mend what stands before. */
    private static void addBits(EffectCourt x, int size, List<Object> told) {
        for (int variable = 0; variable < size; variable++) {
            int bits = x.setBits(variable, 0);
            x.setBits(variable, bits);
            told.add(bits);
        }
    }

    private static int sizeOf(EffectCourt x) {
        for (int size = 0; size < 6; size++) {
            int asked = size;
            if (!(answer(() -> x.rows(asked)) instanceof Integer)) {
                return size;
            }
        }
        return 6;
    }

    private static Object answer(Supplier<Object> asked) {
        try {
            return asked.get();
        } catch (RuntimeException thrown) {
            return thrown.getClass();
        }
    }
}
