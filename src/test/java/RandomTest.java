import java.util.List;

/**
 * Graphs made by a plain counting rule, the same in each run, asked about all over and compared
 * with the model. No object gets more than the 512 calls that the document speaks of.
 */
final class RandomTest {
    private static Expect expect;
    private static long state = 20261119;

    public static void main(String[] args) {
        expect = new Expect("RandomTest");
        for (int number = 0; number < 240; number++) {
            Model model = make(number);
            graph(model);
            separation(model);
            effects(model);
            adjusting(model);
            if (number % 2 == 0) {
                world(model);
            }
            if (model.hidden.isEmpty()) {
                classes(model);
            }
        }
        for (int number = 0; number < 200; number++) {
            grow();
        }
        expect.close();
    }

    /** One object that is changed and asked in turn, with calls that throw between. */
    private static void grow() {
        EffectCourt x = new EffectCourt();
        Model model = new Model(0);
        StringBuilder run = new StringBuilder();
        for (int step = 0; step < 40; step++) {
            int one = next(model.size + 1);
            int other = next(model.size + 1);
            switch (next(6)) {
                case 0 -> model = addVariable(x, model, run);
                case 1, 2 -> addArrow(x, model, one, other, run);
                case 3 -> dropArrow(x, model, one, other, run);
                case 4 -> hide(x, model, one, other, run);
                default -> setBits(x, model, one, next(65536), run);
            }
            if (model.size > 1) {
                askGrown(x, model, run.toString());
            }
        }
    }

    private static Model addVariable(EffectCourt x, Model model, StringBuilder run) {
        run.append("variable() ");
        expect.is(run.toString(),
                model.size < 6 ? (Object) model.size : IllegalStateException.class,
                () -> x.variable());
        if (model.size == 6) {
            return model;
        }
        Model larger = new Model(model.size + 1);
        for (int from = 0; from < model.size; from++) {
            System.arraycopy(model.arrow[from], 0, larger.arrow[from], 0, model.size);
        }
        larger.hidden.addAll(model.hidden);
        System.arraycopy(model.bits, 0, larger.bits, 0, model.size);
        return larger;
    }

    private static void addArrow(EffectCourt x, Model model, int from, int to, StringBuilder run) {
        run.append("arrow(").append(from).append(", ").append(to).append(") ");
        Object due;
        if (from >= model.size || to >= model.size) {
            due = IndexOutOfBoundsException.class;
        } else if (from == to || model.leads(to, from, model.all())) {
            due = IllegalArgumentException.class;
        } else if (model.arrow[from][to]) {
            due = IllegalStateException.class;
        } else {
            model.arrow[from][to] = true;
            due = model.arrows();
        }
        expect.is(run.toString(), due, () -> x.arrow(from, to));
    }

    private static void dropArrow(EffectCourt x, Model model, int from, int to, StringBuilder run) {
        run.append("remove(").append(from).append(", ").append(to).append(") ");
        Object due;
        if (from >= model.size || to >= model.size) {
            due = IndexOutOfBoundsException.class;
        } else if (!model.arrow[from][to]) {
            due = java.util.NoSuchElementException.class;
        } else {
            model.arrow[from][to] = false;
            due = model.arrows();
        }
        expect.is(run.toString(), due, () -> x.remove(from, to));
    }

    private static void hide(EffectCourt x, Model model, int one, int other, StringBuilder run) {
        run.append("hide(").append(one).append(", ").append(other).append(") ");
        Object due;
        if (one >= model.size || other >= model.size) {
            due = IndexOutOfBoundsException.class;
        } else if (one == other) {
            due = IllegalArgumentException.class;
        } else if (model.hidden.size() == 4) {
            due = IllegalStateException.class;
        } else {
            model.hidden.add(new int[] {one, other});
            due = model.hidden.size() - 1;
        }
        expect.is(run.toString(), due, () -> x.hide(one, other));
    }

    private static void setBits(EffectCourt x, Model model, int at, int bits, StringBuilder run) {
        run.append("setBits(").append(at).append(", ").append(bits).append(") ");
        Object due = IndexOutOfBoundsException.class;
        if (at < model.size) {
            due = model.bits[at];
            model.bits[at] = bits;
        }
        expect.is(run.toString(), due, () -> x.setBits(at, bits));
    }

    /** A few calls of each kind, whatever was asked ahead of them. */
    private static void askGrown(EffectCourt x, Model model, String run) {
        int one = next(model.size);
        int other = (one + 1 + next(model.size - 1)) % model.size;
        int set = next(64) & model.all() & ~(1 << one | 1 << other);
        int known = set | 1 << one;
        String call = " with " + one + ", " + other + ", " + set + " after " + run;
        Class<?> notDone = UnsupportedOperationException.class;
        Class<?> absent = java.util.NoSuchElementException.class;
        switch (next(8)) {
            case 0 -> expect.is("chance" + call, model.chance(known, set).told(),
                    () -> x.chance(known, set));
            case 1 -> expect.is("trueEffect" + call,
                    model.chance(set, set, 1 << one, 1 << one).told(),
                    () -> x.trueEffect(set, set, 1 << one, 1 << one));
            case 2 -> expect.is("effect" + call, model.barrier(set, 1 << one) != 0 ? notDone
                    : (Object) model.chance(set, 0, 1 << one, 1 << one).told(),
                    () -> x.effect(set, 0, 1 << one, 1 << one));
            case 3 -> expect.is("graphs" + call, !model.hidden.isEmpty() ? notDone
                    : (Object) model.family().size(), () -> x.graphs());
            case 4 -> expect.is("told" + call, !model.hidden.isEmpty() ? notDone
                    : (Object) Model.told(model.family(), one, other), () -> x.told(one, other));
            case 5 -> expect.is("areIndependent" + call, model.independent(one, other, set),
                    () -> x.areIndependent(one, other, set));
            case 6 -> {
                List<Integer> sets = model.leastSets(one, other);
                expect.is("adjustmentAt" + call, sets.size() < 2 ? absent : (Object) sets.get(1),
                        () -> x.adjustmentAt(one, other, 1));
            }
            default -> {
                List<Integer> path = model.path(one, other, set);
                expect.is("pathAt" + call, path == null ? absent : (Object) path.get(0),
                        () -> x.pathAt(one, other, set, 0));
            }
        }
    }

    private static int next(int bound) {
        state = state * 6364136223846793005L + 1442695040888963407L;
        return (int) ((state >>> 33) % bound);
    }

    private static Model make(int number) {
        Model model = new Model(number < 60 ? 1 + number % 6 : 4 + number % 3);
        int[] order = new int[model.size];
        for (int place = 0; place < model.size; place++) {
            int other = next(place + 1);
            order[place] = order[other];
            order[other] = place;
        }
        int chance = 2 + next(7);
        for (int to = 0; to < model.size; to++) {
            for (int from = 0; from < to; from++) {
                model.arrow[order[from]][order[to]] = next(10) < chance;
            }
        }
        int hidden = model.size < 2 || number % 4 == 0 ? 0 : next(5);
        for (int count = 0; count < hidden; count++) {
            int one = next(model.size);
            int other = (one + 1 + next(model.size - 1)) % model.size;
            model.hidden.add(new int[] {one, other});
        }
        for (int variable = 0; variable < model.size; variable++) {
            model.bits[variable] = next(65536);
        }
        return model;
    }

    private static void graph(Model model) {
        EffectCourt x = model.court();
        String of = " of " + model.text();
        for (int set = 0; set <= model.all(); set++) {
            int asked = set;
            expect.is("ancestors(" + set + ")" + of, model.ancestors(set, model.all()),
                    () -> x.ancestors(asked));
            expect.is("descendants(" + set + ")" + of, model.descendants(set),
                    () -> x.descendants(asked));
        }
        EffectCourt y = model.court();
        for (int within = 0; within <= model.all(); within++) {
            for (int variable = 0; variable < model.size; variable++) {
                int asked = within;
                int at = variable;
                Object due = Model.in(within, variable)
                        ? (Object) model.district(variable, within)
                        : IllegalArgumentException.class;
                expect.is("district(" + variable + ", " + within + ")" + of, due,
                        () -> y.district(at, asked));
            }
        }
        expect.is("meanParents()" + of, (double) model.arrows() / model.size,
                () -> x.meanParents());
    }

    private static void separation(Model model) {
        for (int one = 0; one < model.size; one++) {
            for (int other = 0; other < model.size; other++) {
                if (one != other) {
                    separation(model, one, other);
                }
            }
        }
    }

    private static void separation(Model model, int one, int other) {
        EffectCourt x = model.court();
        for (int set = 0; set <= model.all(); set++) {
            if (Model.in(set, one) || Model.in(set, other)) {
                continue;
            }
            int asked = set;
            String call = "(" + one + ", " + other + ", " + set + ") of " + model.text();
            expect.is("areSeparated" + call, model.separated(one, other, set),
                    () -> x.areSeparated(one, other, asked));
            List<Integer> path = model.path(one, other, set);
            Object length = path == null ? java.util.NoSuchElementException.class : path.size();
            expect.is("pathLength" + call, length, () -> x.pathLength(one, other, asked));
            for (int index = 0; path != null && index < path.size(); index++) {
                int at = index;
                expect.is("pathAt " + index + call, path.get(index),
                        () -> x.pathAt(one, other, asked, at));
            }
        }
    }

    private static void effects(Model model) {
        String of = " of " + model.text();
        int pairs = 0;
        int identified = 0;
        EffectCourt x = model.court();
        int calls = 0;
        for (int from = 0; from <= model.all(); from++) {
            for (int on = 1; on <= model.all(); on++) {
                if ((from & on) != 0) {
                    continue;
                }
                if (calls++ % 150 == 0) {
                    x = model.court();
                }
                effect(model, x, from, on);
                if (Integer.bitCount(from) == 1 && Integer.bitCount(on) == 1) {
                    pairs++;
                    identified += model.identified(from, on) ? 1 : 0;
                }
            }
        }
        EffectCourt last = x;
        Object share = pairs == 0 ? ArithmeticException.class
                : (Object) ((float) identified / pairs);
        expect.is("identifiedShare()" + of, share, () -> last.identifiedShare());
    }

    private static void effect(Model model, EffectCourt x, int from, int on) {
        String call = "(" + from + ", " + on + ") of " + model.text();
        boolean identified = model.identified(from, on);
        expect.is("isIdentified" + call, identified, () -> x.isIdentified(from, on));
        Object barrier = identified
                ? java.util.NoSuchElementException.class : (Object) model.barrier(from, on);
        expect.is("barredBy" + call, barrier, () -> x.barredBy(from, on));
        if (next(12) == 0) {
            int fromValues = next(64) & from;
            int onValues = next(64) & on;
            int due = model.chance(from, fromValues, on, onValues).told();
            String values = " at " + fromValues + ", " + onValues;
            expect.is("trueEffect" + call + values, due,
                    () -> x.trueEffect(from, fromValues, on, onValues));
            expect.is("effect" + call + values,
                    identified ? (Object) due : UnsupportedOperationException.class,
                    () -> x.effect(from, fromValues, on, onValues));
        } else if (next(12) == 0) {
            expect.is("isSame" + call, true, () -> x.isSame(from, on));
        }
    }

    private static void adjusting(Model model) {
        for (int from = 0; from < model.size; from++) {
            for (int on = 0; on < model.size; on++) {
                if (from != on) {
                    adjusting(model, from, on);
                }
            }
        }
    }

    private static void adjusting(Model model, int from, int on) {
        EffectCourt x = model.court();
        String of = "(" + from + ", " + on + ") of " + model.text();
        for (int set = 0; set <= model.all(); set++) {
            if (!Model.in(set, from) && !Model.in(set, on)) {
                int asked = set;
                expect.is("adjusts by " + set + of, model.adjusts(from, on, set),
                        () -> x.adjusts(from, on, asked));
                expect.is("isFront by " + set + of, model.front(from, on, set),
                        () -> x.isFront(from, on, asked));
            }
        }
        List<Integer> sets = model.leastSets(from, on);
        expect.is("adjustments" + of, sets.size(), () -> x.adjustments(from, on));
        for (int index = 0; index < sets.size(); index++) {
            int at = index;
            expect.is("adjustmentAt " + index + of, sets.get(index),
                    () -> x.adjustmentAt(from, on, at));
        }
        if (next(4) == 0) {
            int value = next(2);
            Object due = sets.isEmpty() ? java.util.NoSuchElementException.class
                    : (Object) model.adjusted(from, value, on, sets.get(0)).told();
            expect.is("adjusted to " + value + of, due, () -> x.adjusted(from, value, on));
        }
        for (int third = 0; third < model.size; third++) {
            if (third != from && third != on) {
                int instrument = third;
                expect.is("isInstrument " + third + of, model.instrument(third, from, on),
                        () -> x.isInstrument(instrument, from, on));
            }
        }
    }

    private static void world(Model model) {
        EffectCourt x = model.court();
        String of = " of " + model.text();
        for (int variable = 0; variable < model.size; variable++) {
            int asked = variable;
            expect.is("rows(" + variable + ")" + of, model.rows(variable), () -> x.rows(asked));
        }
        for (int count = 0; count < 10; count++) {
            int set = next(64) & model.all();
            int values = next(64) & set;
            expect.is("chance(" + set + ", " + values + ")" + of, model.chance(set, values).told(),
                    () -> x.chance(set, values));
            int given = next(64) & model.all() & ~set;
            int givenValues = next(64) & given;
            Share due = model.chance(set | given, values | givenValues)
                    .over(model.chance(given, givenValues));
            expect.is("chanceIf(" + set + ", " + values + ", " + given + ", " + givenValues + ")"
                    + of, due.told(), () -> x.chanceIf(set, values, given, givenValues));
        }
        for (int count = 0; count < 4 && model.size > 1; count++) {
            int one = next(model.size);
            int other = (one + 1 + next(model.size - 1)) % model.size;
            int set = next(64) & model.all() & ~(1 << one | 1 << other);
            expect.is("areIndependent(" + one + ", " + other + ", " + set + ")" + of,
                    model.independent(one, other, set), () -> x.areIndependent(one, other, set));
        }
    }

    private static void classes(Model model) {
        EffectCourt x = model.court();
        String of = " of " + model.text();
        List<Model> family = model.family();
        expect.is("graphs()" + of, family.size(), () -> x.graphs());
        for (int one = 0; one < model.size; one++) {
            for (int other = 0; other < model.size; other++) {
                if (one != other) {
                    int from = one;
                    int to = other;
                    expect.is("told(" + one + ", " + other + ")" + of,
                            Model.told(family, one, other), () -> x.told(from, to));
                }
            }
        }
    }
}
