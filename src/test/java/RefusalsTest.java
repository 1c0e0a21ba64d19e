import java.util.ArrayList;
import java.util.Arrays;
import java.util.List;
import java.util.TreeSet;

/**
 * All calls with all odd arguments: each is refused by the exception that the document names first,
 * or answered, and none that is refused leaves a trace.
 */
final class RefusalsTest extends Edges {
    private static final int MOST_CALLS = 512;
    private static final int CALLS_TO_MAKE = 31;

    private interface Asked {
        Object of(EffectCourt x, int[] with);
    }

    /** The exception that is due, or null. */
    private interface Due {
        Class<?> of(Model model, int[] with);
    }

    private record Call(String name, int arguments, Asked asked, Due due, boolean changes) {
    }

    private static final List<Call> CALLS = new ArrayList<>();

    private static EffectCourt asked;
    private static int calls;

    public static void main(String[] args) {
        expect = new Expect("RefusalsTest");
        addGraphCalls();
        addPathCalls();
        addEffectCalls();
        addWorldCalls();
        addAdjustingCalls();
        addClassCalls();
        for (Model model : models()) {
            for (Call call : CALLS) {
                sweep(model, call);
            }
        }
        theLastCall();
        expect.close();
    }

    // ---- the objects and the arguments

    private static List<Model> models() {
        List<Model> models = new ArrayList<>();
        models.add(new Model(0));
        models.add(new Model(1));
        models.add(model(2, new int[] {0, 1}, new int[] {0, 1}));
        models.add(model(3, new int[] {2, 0, 0, 1}, new int[] {}));
        models.add(model(6, new int[] {}, new int[] {}));
        models.add(model(6, new int[] {0, 1, 1, 2, 5, 2, 0, 5},
                new int[] {0, 1, 1, 2, 2, 3, 3, 4}));
        Model all = model(6, new int[] {}, new int[] {0, 5, 0, 5, 1, 4});
        for (int to = 0; to < 6; to++) {
            for (int from = 0; from < to; from++) {
                all.arrow[from][to] = true;
            }
        }
        models.add(all);
        return models;
    }

    private static Model model(int size, int[] arrows, int[] hidden) {
        Model model = new Model(size);
        for (int number = 0; number < arrows.length; number += 2) {
            model.arrow[arrows[number]][arrows[number + 1]] = true;
        }
        for (int number = 0; number < hidden.length; number += 2) {
            model.hidden.add(new int[] {hidden[number], hidden[number + 1]});
        }
        for (int variable = 0; variable < size; variable++) {
            model.bits[variable] = 0x6996 >> variable;
        }
        return model;
    }

    private static int[] candidates(Model model, int arguments) {
        TreeSet<Integer> found = new TreeSet<>(List.of(LEAST, -32, -1, 0, 1, 2, 32, GREATEST));
        found.addAll(List.of(model.size - 1, model.size, model.all(), model.all() + 1));
        if (arguments <= 2) {
            found.addAll(List.of(65535, 65536));
        }
        return found.stream().mapToInt(each -> each).toArray();
    }

    /** Each choice of the arguments among the candidates: the digits of a number tell them. */
    private static void sweep(Model model, Call call) {
        int[] candidates = candidates(model, call.arguments());
        int choices = 1;
        for (int count = 0; count < call.arguments(); count++) {
            choices *= candidates.length;
        }
        for (int choice = 0; choice < choices; choice++) {
            int[] with = new int[call.arguments()];
            int rest = choice;
            for (int number = 0; number < with.length; number++) {
                with[number] = candidates[rest % candidates.length];
                rest /= candidates.length;
            }
            ask(model, call, with);
        }
        checkTrace(model, call);
    }

    private static void ask(Model model, Call call, int[] with) {
        Class<?> due = call.due().of(model, with);
        if (due == null && call.changes()) {
            return;
        }
        if (asked == null) {
            asked = model.court();
            calls = CALLS_TO_MAKE;
        }
        EffectCourt x = asked;
        String text = call.name() + Arrays.toString(with) + " of " + model.text();
        if (due != null) {
            expect.is(text, due, () -> call.asked().of(x, with));
        } else {
            expect.is(text, true, () -> call.asked().of(x, with) != null);
        }
        calls++;
        if (calls + Picture.MOST_CALLS >= MOST_CALLS) {
            checkTrace(model, call);
        }
    }

    private static void checkTrace(Model model, Call call) {
        if (asked != null) {
            EffectCourt x = asked;
            expect.is("the object after many calls of " + call.name() + " of " + model.text(),
                    Picture.of(model.court()), () -> Picture.of(x));
            asked = null;
        }
    }

    // ---- what is due

    private static boolean isOutside(Model model, int variable) {
        return variable < 0 || variable >= model.size;
    }

    private static boolean isImpossible(Model model, int set) {
        return set < 0 || set > model.all();
    }

    private static Class<?> ofVariable(Model model, int variable) {
        return isOutside(model, variable) ? RANGE : null;
    }

    private static Class<?> ofPair(Model model, int one, int other) {
        if (isOutside(model, one) || isOutside(model, other)) {
            return RANGE;
        }
        return one == other ? WRONG : null;
    }

    private static Class<?> ofPairAndSet(Model model, int[] with) {
        Class<?> due = ofPair(model, with[0], with[1]);
        boolean wrong = due == null && (isImpossible(model, with[2])
                || Model.in(with[2], with[0]) || Model.in(with[2], with[1]));
        return wrong ? WRONG : due;
    }

    private static Class<?> ofPath(Model model, int[] with) {
        Class<?> due = ofPairAndSet(model, with);
        boolean absent = due == null && model.separated(with[0], with[1], with[2]);
        return absent ? ABSENT : due;
    }

    private static Class<?> ofStep(Model model, int[] with) {
        Class<?> due = ofPath(model, with);
        boolean absent = due == null && (with[3] < 0
                || with[3] >= model.path(with[0], with[1], with[2]).size());
        return absent ? ABSENT : due;
    }

    private static Class<?> ofSet(Model model, int set) {
        return isImpossible(model, set) ? WRONG : null;
    }

    private static Class<?> ofValues(Model model, int set, int values) {
        return isImpossible(model, set) || (values & ~set) != 0 ? WRONG : null;
    }

    private static Class<?> ofEffect(Model model, int from, int on) {
        boolean wrong = isImpossible(model, from) || isImpossible(model, on) || (from & on) != 0
                || on == 0;
        return wrong ? WRONG : null;
    }

    private static Class<?> ofEffectValues(Model model, int[] with) {
        boolean wrong = ofEffect(model, with[0], with[2]) != null
                || ofValues(model, with[0], with[1]) != null
                || ofValues(model, with[2], with[3]) != null;
        return wrong ? WRONG : null;
    }

    private static Class<?> ofArrow(Model model, int from, int to) {
        if (isOutside(model, from) || isOutside(model, to)) {
            return RANGE;
        }
        if (from == to || model.leads(to, from, model.all())) {
            return WRONG;
        }
        return model.arrow[from][to] ? STATE : null;
    }

    private static Class<?> ofRemove(Model model, int from, int to) {
        if (isOutside(model, from) || isOutside(model, to)) {
            return RANGE;
        }
        return model.arrow[from][to] ? null : ABSENT;
    }

    private static Class<?> ofHide(Model model, int one, int other) {
        Class<?> due = ofPair(model, one, other);
        return due == null && model.hidden.size() == 4 ? STATE : due;
    }

    private static Class<?> ofDistrict(Model model, int variable, int within) {
        if (isOutside(model, variable)) {
            return RANGE;
        }
        return isImpossible(model, within) || !Model.in(within, variable) ? WRONG : null;
    }

    private static Class<?> ofTriple(Model model, int[] with) {
        if (isOutside(model, with[0]) || isOutside(model, with[1]) || isOutside(model, with[2])) {
            return RANGE;
        }
        return with[0] == with[1] || with[0] == with[2] || with[1] == with[2] ? WRONG : null;
    }

    // ---- the calls

    private static void add(String name, int arguments, Asked asked, Due due) {
        CALLS.add(new Call(name, arguments, asked, due, false));
    }

    private static void addChange(String name, int arguments, Asked asked, Due due) {
        CALLS.add(new Call(name, arguments, asked, due, true));
    }

    private static void addGraphCalls() {
        addChange("variable", 0, (x, with) -> x.variable(),
                (model, with) -> model.size == 6 ? STATE : null);
        addChange("arrow", 2, (x, with) -> x.arrow(with[0], with[1]),
                (model, with) -> ofArrow(model, with[0], with[1]));
        addChange("remove", 2, (x, with) -> x.remove(with[0], with[1]),
                (model, with) -> ofRemove(model, with[0], with[1]));
        addChange("hide", 2, (x, with) -> x.hide(with[0], with[1]),
                (model, with) -> ofHide(model, with[0], with[1]));
        add("ancestors", 1, (x, with) -> x.ancestors(with[0]),
                (model, with) -> ofSet(model, with[0]));
        add("descendants", 1, (x, with) -> x.descendants(with[0]),
                (model, with) -> ofSet(model, with[0]));
        add("district", 2, (x, with) -> x.district(with[0], with[1]),
                (model, with) -> ofDistrict(model, with[0], with[1]));
    }

    private static void addPathCalls() {
        add("areSeparated", 3, (x, with) -> x.areSeparated(with[0], with[1], with[2]),
                RefusalsTest::ofPairAndSet);
        add("pathLength", 3, (x, with) -> x.pathLength(with[0], with[1], with[2]),
                RefusalsTest::ofPath);
        add("pathAt", 4, (x, with) -> x.pathAt(with[0], with[1], with[2], with[3]),
                RefusalsTest::ofStep);
    }

    private static void addEffectCalls() {
        add("isIdentified", 2, (x, with) -> x.isIdentified(with[0], with[1]),
                (model, with) -> ofEffect(model, with[0], with[1]));
        add("barredBy", 2, (x, with) -> x.barredBy(with[0], with[1]), (model, with) -> {
            Class<?> due = ofEffect(model, with[0], with[1]);
            return due == null && model.identified(with[0], with[1]) ? ABSENT : due;
        });
        add("effect", 4, (x, with) -> x.effect(with[0], with[1], with[2], with[3]),
                (model, with) -> {
                    Class<?> due = ofEffectValues(model, with);
                    return due == null && !model.identified(with[0], with[2]) ? NOT_DONE : due;
                });
        add("trueEffect", 4, (x, with) -> x.trueEffect(with[0], with[1], with[2], with[3]),
                RefusalsTest::ofEffectValues);
        add("isSame", 2, (x, with) -> x.isSame(with[0], with[1]),
                (model, with) -> ofEffect(model, with[0], with[1]));
    }

    private static void addWorldCalls() {
        addChange("setBits", 2, (x, with) -> x.setBits(with[0], with[1]), (model, with) -> {
            Class<?> due = ofVariable(model, with[0]);
            return due == null && (with[1] < 0 || with[1] > 65535) ? WRONG : due;
        });
        add("rows", 1, (x, with) -> x.rows(with[0]), (model, with) -> ofVariable(model, with[0]));
        add("chance", 2, (x, with) -> x.chance(with[0], with[1]),
                (model, with) -> ofValues(model, with[0], with[1]));
        add("chanceIf", 4, (x, with) -> x.chanceIf(with[0], with[1], with[2], with[3]),
                (model, with) -> {
                    boolean wrong = ofValues(model, with[0], with[1]) != null
                            || ofValues(model, with[2], with[3]) != null
                            || (with[0] & with[2]) != 0;
                    return wrong ? WRONG : null;
                });
        add("areIndependent", 3, (x, with) -> x.areIndependent(with[0], with[1], with[2]),
                RefusalsTest::ofPairAndSet);
    }

    private static void addAdjustingCalls() {
        add("adjusts", 3, (x, with) -> x.adjusts(with[0], with[1], with[2]),
                RefusalsTest::ofPairAndSet);
        add("adjustments", 2, (x, with) -> x.adjustments(with[0], with[1]),
                (model, with) -> ofPair(model, with[0], with[1]));
        add("adjustmentAt", 3, (x, with) -> x.adjustmentAt(with[0], with[1], with[2]),
                (model, with) -> {
                    Class<?> due = ofPair(model, with[0], with[1]);
                    boolean absent = due == null && (with[2] < 0
                            || with[2] >= model.leastSets(with[0], with[1]).size());
                    return absent ? ABSENT : due;
                });
        add("adjusted", 3, (x, with) -> x.adjusted(with[0], with[1], with[2]), (model, with) -> {
            Class<?> due = ofPair(model, with[0], with[2]);
            if (due == null && with[1] != 0 && with[1] != 1) {
                return WRONG;
            }
            return due == null && model.leastSets(with[0], with[2]).isEmpty() ? ABSENT : due;
        });
        add("isFront", 3, (x, with) -> x.isFront(with[0], with[1], with[2]),
                RefusalsTest::ofPairAndSet);
        add("isInstrument", 3, (x, with) -> x.isInstrument(with[0], with[1], with[2]),
                RefusalsTest::ofTriple);
    }

    private static void addClassCalls() {
        add("graphs", 0, (x, with) -> x.graphs(),
                (model, with) -> model.hidden.isEmpty() ? null : NOT_DONE);
        add("told", 2, (x, with) -> x.told(with[0], with[1]), (model, with) -> {
            Class<?> due = ofPair(model, with[0], with[1]);
            return due == null && !model.hidden.isEmpty() ? NOT_DONE : due;
        });
        add("identifiedShare", 0, (x, with) -> x.identifiedShare(),
                (model, with) -> model.size < 2 ? REFUSED : null);
        add("meanParents", 0, (x, with) -> x.meanParents(),
                (model, with) -> model.size == 0 ? REFUSED : null);
    }

    // ---- the last of all calls

    private static void theLastCall() {
        EffectCourt classes = calledBut();
        expect.is("27 the 512th call", 2, () -> classes.graphs());
        EffectCourt arrows = calledBut();
        expect.is("3 the 512th call", STATE, () -> arrows.arrow(0, 5));
        EffectCourt world = calledBut();
        expect.is("19 the 512th call", Share.of(1, 3).told(), () -> world.chanceIf(32, 32, 31, 1));
        EffectCourt paths = calledBut();
        expect.is("11 the 512th call", 1, () -> paths.pathAt(5, 0, 30, 0));
    }

    /** An object that has had all the calls that the document speaks of but one. */
    private static EffectCourt calledBut() {
        EffectCourt x = Courts.of(6);
        for (int count = 6; count < MOST_CALLS - 1; count++) {
            boolean isThere = count % 2 == 1;
            expect.is("call " + count, isThere ? 0 : 1,
                    () -> isThere ? x.remove(0, 5) : x.arrow(0, 5));
        }
        return x;
    }
}
