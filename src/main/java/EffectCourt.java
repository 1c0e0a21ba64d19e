import java.util.NoSuchElementException;

/**
 * A system of causes: arrows and hidden causes between at most six variables, what they separate,
 * which effects can be reckoned from what is seen, and the world's exact chances.
 */
public final class EffectCourt {
    private static final int MOST_VARIABLES = 6;
    private static final int MOST_HIDDEN = 4;
    private static final int MOST_VALUES = 1 << MOST_VARIABLES;
    private static final int MOST_HIDDEN_VALUES = 1 << MOST_HIDDEN;
    private static final int PLACES_OF_BITS = 16;
    private static final int PRIME = 1000003;
    private static final int NONE = -1;

    private final Graph graph;
    private final Paths paths;
    private final World world;
    private final Reckoner reckoner;
    private final Adjuster adjuster;
    private final Family family;

    public EffectCourt() {
        Graph made = new Graph();
        World table = new World(made);
        Paths walks = new Paths(made);
        graph = made;
        paths = walks;
        world = table;
        reckoner = new Reckoner(made, table);
        adjuster = new Adjuster(made, walks);
        family = new Family(made);
    }

    // ---- graphs

    public int variable() throws IllegalStateException {
        if (graph.size() >= MOST_VARIABLES) {
            throw new IllegalStateException("there are 6 variables");
        }
        return graph.addVariable();
    }

    public int arrow(int from, int to)
            throws IndexOutOfBoundsException, IllegalArgumentException, IllegalStateException {
        needVariable(from);
        needVariable(to);
        if (holds(graph.above(1 << from, graph.all(), 0), to)) {
            throw new IllegalArgumentException("arrows would lead round");
        }
        if (holds(graph.parentsOf(to), from)) {
            throw new IllegalStateException("the arrow is there");
        }
        return graph.addArrow(from, to);
    }

    public int remove(int from, int to) throws IndexOutOfBoundsException, NoSuchElementException {
        needVariable(from);
        needVariable(to);
        if (!holds(graph.parentsOf(to), from)) {
            throw new NoSuchElementException("the arrow is not there");
        }
        return graph.dropArrow(from, to);
    }

    public int hide(int one, int other)
            throws IndexOutOfBoundsException, IllegalArgumentException, IllegalStateException {
        needVariable(one);
        needVariable(other);
        needDifferent(one, other);
        if (graph.hiddenCount() >= MOST_HIDDEN) {
            throw new IllegalStateException("there are 4 hidden causes");
        }
        return graph.addHidden(one, other);
    }

    public int ancestors(int set) throws IllegalArgumentException {
        needSet(set);
        return graph.above(set, graph.all(), 0);
    }

    public int descendants(int set) throws IllegalArgumentException {
        needSet(set);
        return graph.below(set, graph.all());
    }

    public int district(int variable, int within)
            throws IndexOutOfBoundsException, IllegalArgumentException {
        needVariable(variable);
        needSet(within);
        if (!holds(within, variable)) {
            throw new IllegalArgumentException("the variable is not in the set");
        }
        return graph.districtOf(1 << variable, within);
    }

    // ---- separation

    public boolean areSeparated(int one, int other, int set)
            throws IndexOutOfBoundsException, IllegalArgumentException {
        needPairOutside(one, other, set);
        return !paths.find(one, other, set, 0);
    }

    public int pathLength(int one, int other, int set)
            throws IndexOutOfBoundsException, IllegalArgumentException, NoSuchElementException {
        needPairOutside(one, other, set);
        if (!paths.find(one, other, set, 0)) {
            throw new NoSuchElementException("they are separated");
        }
        return paths.lengthFound();
    }

    public int pathAt(int one, int other, int set, int index)
            throws IndexOutOfBoundsException, IllegalArgumentException, NoSuchElementException {
        needPairOutside(one, other, set);
        if (!paths.find(one, other, set, 0)) {
            throw new NoSuchElementException("they are separated");
        }
        if (index < 0 || index >= paths.lengthFound()) {
            throw new NoSuchElementException("there is no such step");
        }
        return paths.stepFound(index);
    }

    // ---- effects

    public boolean isIdentified(int from, int on) throws IllegalArgumentException {
        needEffect(from, on);
        return reckoner.barrier(from, on) == 0;
    }

    public int barredBy(int from, int on) throws IllegalArgumentException, NoSuchElementException {
        needEffect(from, on);
        int barrier = reckoner.barrier(from, on);
        if (barrier == 0) {
            throw new NoSuchElementException("the effect is identified");
        }
        return barrier;
    }

    public int effect(int from, int fromValues, int on, int onValues)
            throws IllegalArgumentException, UnsupportedOperationException {
        needEffect(from, on);
        needValues(from, fromValues);
        needValues(on, onValues);
        if (reckoner.barrier(from, on) != 0) {
            throw new UnsupportedOperationException("the effect is not identified");
        }
        reckoner.reckon(from, on);
        return reckoner.reckoned(fromValues | onValues);
    }

    public int trueEffect(int from, int fromValues, int on, int onValues)
            throws IllegalArgumentException {
        needEffect(from, on);
        needValues(from, fromValues);
        needValues(on, onValues);
        return world.shareDone(from, from | on, fromValues | onValues);
    }

    // ---- worlds

    public int setBits(int variable, int bits)
            throws IndexOutOfBoundsException, IllegalArgumentException {
        needVariable(variable);
        if (bits < 0 || bits >= 1 << PLACES_OF_BITS) {
            throw new IllegalArgumentException("the bits are out of range");
        }
        return world.changeBits(variable, bits);
    }

    public int rows(int variable) throws IndexOutOfBoundsException {
        needVariable(variable);
        int causes = Integer.bitCount(graph.parentsOf(variable))
                + Integer.bitCount(graph.hiddenOf(variable));
        return 1 << causes;
    }

    public int chance(int set, int values) throws IllegalArgumentException {
        needSet(set);
        needValues(set, values);
        return fraction(world.count(set, values), world.whole(0));
    }

    public int chanceIf(int set, int values, int given, int givenValues)
            throws IllegalArgumentException {
        needSet(set);
        needValues(set, values);
        needSet(given);
        needValues(given, givenValues);
        needApart(set, given);
        int both = world.count(set | given, values | givenValues);
        return fraction(both, world.count(given, givenValues));
    }

    public boolean areIndependent(int one, int other, int set)
            throws IndexOutOfBoundsException, IllegalArgumentException {
        needPairOutside(one, other, set);
        return world.areFree(1 << one, 1 << other, set);
    }

    // ---- adjusting

    public boolean adjusts(int from, int on, int set)
            throws IndexOutOfBoundsException, IllegalArgumentException {
        needPairOutside(from, on, set);
        return adjuster.isFit(from, on, set);
    }

    public int adjustments(int from, int on)
            throws IndexOutOfBoundsException, IllegalArgumentException {
        needPair(from, on);
        adjuster.markFit(from, on);
        return adjuster.countLeast();
    }

    public int adjustmentAt(int from, int on, int index)
            throws IndexOutOfBoundsException, IllegalArgumentException, NoSuchElementException {
        needPair(from, on);
        adjuster.markFit(from, on);
        int set = adjuster.least(index);
        if (set == NONE) {
            throw new NoSuchElementException("there is no such set");
        }
        return set;
    }

    public int adjusted(int from, int value, int on)
            throws IndexOutOfBoundsException, IllegalArgumentException, NoSuchElementException {
        needPair(from, on);
        if (value != 0 && value != 1) {
            throw new IllegalArgumentException("the value is none");
        }
        adjuster.markFit(from, on);
        int set = adjuster.least(0);
        if (set == NONE) {
            throw new NoSuchElementException("there is no such set");
        }
        return world.shareAdjusted(1 << from, value << from, 1 << on, set);
    }

    public boolean isFront(int from, int on, int set)
            throws IndexOutOfBoundsException, IllegalArgumentException {
        needPairOutside(from, on, set);
        return adjuster.standsBetween(from, on, set);
    }

    public boolean isInstrument(int instrument, int from, int on)
            throws IndexOutOfBoundsException, IllegalArgumentException {
        needVariable(instrument);
        needVariable(from);
        needVariable(on);
        needDifferent(instrument, from);
        needDifferent(instrument, on);
        needDifferent(from, on);
        return paths.find(instrument, from, 0, 0) && !paths.find(instrument, on, 0, 1 << from);
    }

    // ---- classes

    public int graphs() throws UnsupportedOperationException {
        needNoHidden();
        family.gather();
        return family.members();
    }

    public char told(int one, int other)
            throws IndexOutOfBoundsException, IllegalArgumentException,
            UnsupportedOperationException {
        needPair(one, other);
        needNoHidden();
        family.gather();
        boolean forward = family.hasArrow(one, other);
        boolean back = family.hasArrow(other, one);
        if (forward && back) {
            return '-';
        }
        if (forward) {
            return '>';
        }
        return back ? '<' : '0';
    }

    // ---- figures

    public boolean isSame(int from, int on) throws IllegalArgumentException {
        needEffect(from, on);
        if (reckoner.barrier(from, on) != 0) {
            return true;
        }
        reckoner.reckon(from, on);
        int known = from | on;
        for (int values = 0; values < MOST_VALUES; values++) {
            if ((values & ~known) == 0
                    && reckoner.reckoned(values) != world.shareDone(from, known, values)) {
                return false;
            }
        }
        return true;
    }

    public float identifiedShare() throws ArithmeticException {
        int size = graph.size();
        if (size < 2) {
            throw new ArithmeticException("there are less than 2 variables");
        }
        int identified = 0;
        for (int from = 0; from < size; from++) {
            for (int on = 0; on < size; on++) {
                if (from != on && reckoner.barrier(1 << from, 1 << on) == 0) {
                    identified++;
                }
            }
        }
        return (float) identified / (float) (size * (size - 1));
    }

    public double meanParents() throws ArithmeticException {
        int size = graph.size();
        if (size == 0) {
            throw new ArithmeticException("there are no variables");
        }
        return (double) graph.arrowCount() / (double) size;
    }

    // ---- what calls need

    private void needVariable(int variable) {
        if (variable < 0 || variable >= graph.size()) {
            throw new IndexOutOfBoundsException("there is no such variable");
        }
    }

    private void needDifferent(int one, int other) {
        if (one == other) {
            throw new IllegalArgumentException("both are the same");
        }
    }

    private void needPair(int one, int other) {
        needVariable(one);
        needVariable(other);
        needDifferent(one, other);
    }

    private void needSet(int set) {
        if ((set & ~graph.all()) != 0) {
            throw new IllegalArgumentException("the set is not possible");
        }
    }

    private void needValues(int set, int values) {
        if ((values & ~set) != 0) {
            throw new IllegalArgumentException("the values are not possible");
        }
    }

    private void needApart(int one, int other) {
        if ((one & other) != 0) {
            throw new IllegalArgumentException("the sets have something in common");
        }
    }

    private void needPairOutside(int one, int other, int set) {
        needPair(one, other);
        needSet(set);
        if (holds(set, one) || holds(set, other)) {
            throw new IllegalArgumentException("one is in the set");
        }
    }

    private void needEffect(int from, int on) {
        needSet(from);
        needSet(on);
        needApart(from, on);
        if (on == 0) {
            throw new IllegalArgumentException("the second set is empty");
        }
    }

    private void needNoHidden() {
        if (graph.hiddenCount() > 0) {
            throw new UnsupportedOperationException("there are hidden causes");
        }
    }

    // ---- small arithmetic

    private static boolean holds(int set, int variable) {
        return (set >> variable & 1) == 1;
    }

    private static int times(int one, int other) {
        return (int) ((long) one * other % PRIME);
    }

    /** By Fermat: a number to the power of the prime less two undoes it. */
    private static int inverse(int number) {
        int result = 1;
        int power = number;
        for (int rest = PRIME - 2; rest > 0; rest >>= 1) {
            if ((rest & 1) == 1) {
                result = times(result, power);
            }
            power = times(power, power);
        }
        return result;
    }

    private static int fraction(int upper, int lower) {
        return times(upper, inverse(lower));
    }

    /** The values of a set alone, closed up: its lowest variable counts 1, the next one 2. */
    private static int closedUp(int values, int set) {
        int result = 0;
        int place = 0;
        for (int variable = 0; variable < MOST_VARIABLES; variable++) {
            if (holds(set, variable)) {
                result |= (values >> variable & 1) << place;
                place++;
            }
        }
        return result;
    }

    /** Numbers in places; every index is looked at here, so that no caller can go astray. */
    private static final class Row {
        private final int[] cells;

        Row(int places) {
            cells = new int[places > 0 ? places : 0];
        }

        int get(int place) {
            return place >= 0 && place < cells.length ? cells[place] : 0;
        }

        void put(int place, int number) {
            if (place >= 0 && place < cells.length) {
                cells[place] = number;
            }
        }

        void fill(int number) {
            for (int place = 0; place < cells.length; place++) {
                cells[place] = number;
            }
        }

        /** Every place gets the sum over both values of a variable, so that it no longer counts. */
        void sumOver(int variable) {
            int bit = 1 << variable;
            for (int place = 0; place < cells.length; place++) {
                int partner = place | bit;
                if (partner != place && partner < cells.length) {
                    int sum = (cells[place] + cells[partner]) % PRIME;
                    cells[place] = sum;
                    cells[partner] = sum;
                }
            }
        }
    }

    /** Variables, arrows and hidden causes; the version tells whether something has changed. */
    private static final class Graph {
        private final Row parents = new Row(MOST_VARIABLES);
        private final Row ends = new Row(MOST_HIDDEN);
        private int size = 0;
        private int arrowCount = 0;
        private int hiddenCount = 0;
        private int version = 0;

        int size() {
            return size;
        }

        int arrowCount() {
            return arrowCount;
        }

        int hiddenCount() {
            return hiddenCount;
        }

        int version() {
            return version;
        }

        int all() {
            return (1 << size) - 1;
        }

        int addVariable() {
            version++;
            size++;
            return size - 1;
        }

        int addArrow(int from, int to) {
            version++;
            parents.put(to, parents.get(to) | 1 << from);
            arrowCount++;
            return arrowCount;
        }

        int dropArrow(int from, int to) {
            version++;
            parents.put(to, parents.get(to) & ~(1 << from));
            arrowCount--;
            return arrowCount;
        }

        int addHidden(int one, int other) {
            version++;
            ends.put(hiddenCount, 1 << one | 1 << other);
            hiddenCount++;
            return hiddenCount - 1;
        }

        int parentsOf(int variable) {
            return parents.get(variable);
        }

        int childrenOf(int variable) {
            int children = 0;
            for (int child = 0; child < size; child++) {
                if (holds(parents.get(child), variable)) {
                    children |= 1 << child;
                }
            }
            return children;
        }

        int lowestHidden(int pair) {
            for (int hidden = 0; hidden < hiddenCount; hidden++) {
                if (ends.get(hidden) == pair) {
                    return hidden;
                }
            }
            return NONE;
        }

        /** The hidden causes of a variable, as a sum of powers of two. */
        int hiddenOf(int variable) {
            int causes = 0;
            for (int hidden = 0; hidden < hiddenCount; hidden++) {
                if (holds(ends.get(hidden), variable)) {
                    causes |= 1 << hidden;
                }
            }
            return causes;
        }

        /** The ancestors of a set within some variables, without the arrows from the cut ones. */
        int above(int set, int within, int cut) {
            int found = set;
            for (int round = 0; round < size; round++) {
                for (int variable = 0; variable < size; variable++) {
                    if (holds(found, variable)) {
                        found |= parents.get(variable) & within & ~cut;
                    }
                }
            }
            return found;
        }

        int below(int set, int within) {
            int found = set;
            for (int round = 0; round < size; round++) {
                for (int variable = 0; variable < size; variable++) {
                    if (holds(within, variable) && (parents.get(variable) & found) != 0) {
                        found |= 1 << variable;
                    }
                }
            }
            return found;
        }

        /** The district within some variables that has a set, which must lie in one of them. */
        int districtOf(int set, int within) {
            int found = set;
            for (int round = 0; round < size; round++) {
                for (int hidden = 0; hidden < hiddenCount; hidden++) {
                    int pair = ends.get(hidden);
                    if ((pair & ~within) == 0 && (pair & found) != 0) {
                        found |= pair;
                    }
                }
            }
            return found;
        }
    }

    /** Looks for the open path that is told; what was found stays until the next search. */
    private static final class Paths {
        private static final int FORWARD = 0;
        private static final int BACK = 1;
        private static final int HIDDEN = 2;
        private static final int CELLS = MOST_VARIABLES * MOST_VARIABLES;

        private final Graph graph;
        private final Row byArrow = new Row(CELLS);
        private final Row byHidden = new Row(CELLS);
        private final Row route = new Row(MOST_VARIABLES);
        private final Row steps = new Row(MOST_VARIABLES);
        private int goal = 0;
        private int length = 0;
        private int blocked = 0;
        private int meeting = 0;

        Paths(Graph graph) {
            this.graph = graph;
        }

        int lengthFound() {
            return length;
        }

        int stepFound(int index) {
            return steps.get(index);
        }

        /** Whether a path is open by a set, without the arrows from the cut variables. */
        boolean find(int one, int other, int set, int cut) {
            listSteps(cut);
            goal = other;
            blocked = set;
            meeting = graph.above(set, graph.all(), cut);
            route.put(0, one);
            for (int tried = 1; tried < graph.size(); tried++) {
                length = tried;
                if (walk(1, 1 << one)) {
                    return true;
                }
            }
            return false;
        }

        /** Of several hidden causes of two variables the lowest one will do: all are alike. */
        private void listSteps(int cut) {
            for (int here = 0; here < graph.size(); here++) {
                for (int next = 0; next < graph.size(); next++) {
                    int arrow = NONE;
                    if (holds(graph.parentsOf(next) & ~cut, here)) {
                        arrow = FORWARD;
                    } else if (holds(graph.parentsOf(here) & ~cut, next)) {
                        arrow = BACK;
                    }
                    int hidden = graph.lowestHidden(1 << here | 1 << next);
                    byArrow.put(cell(here, next), arrow);
                    byHidden.put(cell(here, next), hidden == NONE ? NONE : HIDDEN + hidden);
                }
            }
        }

        private static int cell(int here, int next) {
            return here * MOST_VARIABLES + next;
        }

        /** Tries the variables for a place of the route in rising order: the first is told. */
        private boolean walk(int place, int used) {
            boolean last = place >= length;
            int here = route.get(place - 1);
            for (int next = 0; next < graph.size(); next++) {
                if (holds(used, next) || last != (next == goal) || !isJoined(here, next)) {
                    continue;
                }
                route.put(place, next);
                if (last ? hasWay(0, false) : walk(place + 1, used | 1 << next)) {
                    return true;
                }
            }
            return false;
        }

        private boolean isJoined(int here, int next) {
            return byArrow.get(cell(here, next)) != NONE || byHidden.get(cell(here, next)) != NONE;
        }

        /** Whether the route can be gone from a step on; the arrow is tried ahead of the hidden. */
        private boolean hasWay(int step, boolean headBehind) {
            if (step >= length) {
                return true;
            }
            int here = route.get(step);
            int next = route.get(step + 1);
            for (int kind = 0; kind < 2; kind++) {
                int cell = cell(here, next);
                int code = kind == 0 ? byArrow.get(cell) : byHidden.get(cell);
                boolean met = headBehind && code != FORWARD;
                boolean open = step == 0 || (met ? holds(meeting, here) : !holds(blocked, here));
                if (code == NONE || !open) {
                    continue;
                }
                steps.put(step, 10 * next + code);
                if (hasWay(step + 1, code != BACK)) {
                    return true;
                }
            }
            return false;
        }
    }

    /**
     * The world's table. Chances are held as whole counts of parts, 2 for each hidden cause and 3
     * for each variable: with at most 11664 of them they stay below the prime and exact.
     */
    private static final class World {
        private final Graph graph;
        private final Row bits = new Row(MOST_VARIABLES);
        private final Row seen = new Row(MOST_VALUES);
        private final Row parentRows = new Row(MOST_VARIABLES);
        private final Row hiddenRows = new Row(MOST_VARIABLES * MOST_HIDDEN_VALUES);
        private int seenVersion = NONE;
        private int rowsVersion = NONE;

        World(Graph graph) {
            this.graph = graph;
        }

        int changeBits(int variable, int changed) {
            int before = bits.get(variable);
            bits.put(variable, changed);
            seenVersion = NONE;
            return before;
        }

        /** All parts there are when the values of the done variables are told. */
        int whole(int done) {
            int parts = 1 << graph.hiddenCount();
            for (int variable = 0; variable < graph.size(); variable++) {
                parts *= holds(done, variable) ? 1 : 3;
            }
            return parts;
        }

        /** The parts in which a set has some values. */
        int count(int set, int values) {
            refresh();
            int sum = 0;
            for (int each = 0; each <= graph.all(); each++) {
                if ((each & set) == values) {
                    sum += seen.get(each);
                }
            }
            return sum;
        }

        int partsOf(int values) {
            refresh();
            return seen.get(values);
        }

        /** The chance of some values when those of the done variables are told. */
        int shareDone(int done, int known, int values) {
            listHiddenRows();
            int sum = 0;
            for (int each = 0; each <= graph.all(); each++) {
                if ((each & known) == values) {
                    sum += partsAt(each, done);
                }
            }
            return fraction(sum, whole(done));
        }

        /** A pair of values is enough: variables with two values are free of each other by it. */
        boolean areFree(int one, int other, int set) {
            for (int values = 0; values < MOST_VALUES; values++) {
                if ((values & ~set) != 0) {
                    continue;
                }
                long both = count(one | other | set, one | other | values);
                long first = count(one | set, one | values);
                long second = count(other | set, other | values);
                if (both * count(set, values) != first * second) {
                    return false;
                }
            }
            return true;
        }

        int shareAdjusted(int from, int fromValue, int on, int set) {
            int sum = 0;
            for (int values = 0; values < MOST_VALUES; values++) {
                if ((values & ~set) != 0) {
                    continue;
                }
                int chance = fraction(count(set, values), whole(0));
                int with = count(from | set | on, fromValue | values | on);
                int of = count(from | set, fromValue | values);
                sum = (sum + times(chance, fraction(with, of))) % PRIME;
            }
            return sum;
        }

        private void refresh() {
            if (seenVersion == graph.version()) {
                return;
            }
            seenVersion = graph.version();
            listHiddenRows();
            for (int values = 0; values <= graph.all(); values++) {
                seen.put(values, partsAt(values, 0));
            }
        }

        /** What the hidden causes' values add to the number of each variable's row. */
        private void listHiddenRows() {
            if (rowsVersion == graph.version()) {
                return;
            }
            rowsVersion = graph.version();
            for (int variable = 0; variable < graph.size(); variable++) {
                int shift = Integer.bitCount(graph.parentsOf(variable));
                int causes = graph.hiddenOf(variable);
                for (int hidden = 0; hidden < 1 << graph.hiddenCount(); hidden++) {
                    hiddenRows.put(variable * MOST_HIDDEN_VALUES + hidden,
                            closedUp(hidden, causes) << shift);
                }
            }
        }

        private int partsAt(int values, int done) {
            for (int variable = 0; variable < graph.size(); variable++) {
                parentRows.put(variable, closedUp(values, graph.parentsOf(variable)));
            }
            int sum = 0;
            for (int hidden = 0; hidden < 1 << graph.hiddenCount(); hidden++) {
                sum += partsWith(values, hidden, done);
            }
            return sum;
        }

        private int partsWith(int values, int hidden, int done) {
            int product = 1;
            for (int variable = 0; variable < graph.size(); variable++) {
                if (!holds(done, variable)) {
                    int row = parentRows.get(variable)
                            + hiddenRows.get(variable * MOST_HIDDEN_VALUES + hidden);
                    int thirds = 1 + (bits.get(variable) >> row % PLACES_OF_BITS & 1);
                    product *= holds(values, variable) ? thirds : 3 - thirds;
                }
            }
            return product;
        }
    }

    /** Finds out whether an effect is identified, and reckons it from what is seen alone. */
    private static final class Reckoner {
        private final Graph graph;
        private final World world;
        private final Row result = new Row(MOST_VALUES);
        private final Row parts = new Row(MOST_VALUES);
        private final Row table = new Row(MOST_VALUES);
        private final Row left = new Row(MOST_VALUES);
        private final Row upper = new Row(MOST_VALUES);
        private final Row lower = new Row(MOST_VALUES);

        Reckoner(Graph graph, World world) {
            this.graph = graph;
            this.world = world;
        }

        /** The set at which the first district is not found, or 0 if the effect is identified. */
        int barrier(int from, int on) {
            int needed = graph.above(on, graph.all() & ~from, 0);
            int rest = needed;
            for (int variable = 0; variable < graph.size(); variable++) {
                if (holds(rest, variable)) {
                    int district = graph.districtOf(1 << variable, needed);
                    int barrier = barrierOf(district);
                    if (barrier != 0) {
                        return barrier;
                    }
                    rest &= ~district;
                }
            }
            return 0;
        }

        private int barrierOf(int district) {
            int around = graph.districtOf(district, graph.all());
            for (int round = 0; round < graph.size(); round++) {
                int over = graph.above(district, around, 0);
                if (over == district) {
                    return 0;
                }
                if (over == around) {
                    return around;
                }
                around = graph.districtOf(district, over);
            }
            return 0;
        }

        int reckoned(int values) {
            return result.get(values);
        }

        /** Fills the result for all values of both sets; the effect must be identified. */
        void reckon(int from, int on) {
            for (int values = 0; values <= graph.all(); values++) {
                parts.put(values, world.partsOf(values));
            }
            result.fill(1);
            int needed = graph.above(on, graph.all() & ~from, 0);
            int rest = needed;
            for (int variable = 0; variable < graph.size(); variable++) {
                if (holds(rest, variable)) {
                    int district = graph.districtOf(1 << variable, needed);
                    reckonDistrict(district);
                    multiplyResult();
                    rest &= ~district;
                }
            }
            for (int variable = 0; variable < graph.size(); variable++) {
                if (holds(needed & ~on, variable)) {
                    result.sumOver(variable);
                }
            }
        }

        private void multiplyResult() {
            for (int values = 0; values <= graph.all(); values++) {
                result.put(values, times(result.get(values), table.get(values)));
            }
        }

        /** Leads the table from all variables down to what a district does of itself. */
        private void reckonDistrict(int district) {
            for (int values = 0; values <= graph.all(); values++) {
                table.put(values, parts.get(values));
            }
            int around = graph.districtOf(district, graph.all());
            takeOut(around, graph.all());
            for (int round = 0; round < graph.size() && around != district; round++) {
                int over = graph.above(district, around, 0);
                sumTable(around & ~over);
                around = graph.districtOf(district, over);
                takeOut(around, over);
            }
        }

        private void sumTable(int set) {
            for (int variable = 0; variable < graph.size(); variable++) {
                if (holds(set, variable)) {
                    table.sumOver(variable);
                }
            }
        }

        /**
         * Takes a district's factor out of the table of a set: for each of its variables, the
         * chance up to it over the chance ahead of it, the variables in an order of the arrows.
         * So counts of parts serve for chances: their whole falls out here.
         */
        private void takeOut(int district, int set) {
            copyToLeft();
            upper.fill(1);
            lower.fill(1);
            int rest = set;
            for (int round = 0; round < graph.size() && rest != 0; round++) {
                int last = lastOf(rest);
                boolean counts = holds(district, last);
                if (counts) {
                    multiply(true);
                }
                left.sumOver(last);
                if (counts) {
                    multiply(false);
                }
                rest &= ~(1 << last);
            }
            for (int values = 0; values <= graph.all(); values++) {
                table.put(values, fraction(upper.get(values), lower.get(values)));
            }
        }

        private void copyToLeft() {
            for (int values = 0; values <= graph.all(); values++) {
                left.put(values, table.get(values));
            }
        }

        private void multiply(boolean above) {
            for (int values = 0; values <= graph.all(); values++) {
                if (above) {
                    upper.put(values, times(upper.get(values), left.get(values)));
                } else {
                    lower.put(values, times(lower.get(values), left.get(values)));
                }
            }
        }

        /** A variable of a set from which no arrow leads to another one of it. */
        private int lastOf(int set) {
            for (int variable = 0; variable < graph.size(); variable++) {
                if (holds(set, variable) && (graph.childrenOf(variable) & set) == 0) {
                    return variable;
                }
            }
            return 0;
        }
    }

    /** Sets that adjust, the least ones of them, and fronts. */
    private static final class Adjuster {
        private final Graph graph;
        private final Paths paths;
        private final Row fit = new Row(MOST_VALUES);

        Adjuster(Graph graph, Paths paths) {
            this.graph = graph;
            this.paths = paths;
        }

        boolean isFit(int from, int on, int set) {
            return (graph.below(1 << from, graph.all()) & set) == 0
                    && !paths.find(from, on, set, 1 << from);
        }

        /** Marks all sets that adjust; the least ones can be asked for afterwards. */
        void markFit(int from, int on) {
            int pair = 1 << from | 1 << on;
            for (int set = 0; set <= graph.all(); set++) {
                fit.put(set, (set & pair) == 0 && isFit(from, on, set) ? 1 : 0);
            }
        }

        int countLeast() {
            int found = 0;
            for (int set = 0; set <= graph.all(); set++) {
                if (isLeast(set)) {
                    found++;
                }
            }
            return found;
        }

        /** The least set at an index, or NONE. */
        int least(int index) {
            int ahead = 0;
            for (int variables = 0; variables <= graph.size(); variables++) {
                for (int set = 0; set <= graph.all(); set++) {
                    if (Integer.bitCount(set) == variables && isLeast(set)) {
                        if (ahead == index) {
                            return set;
                        }
                        ahead++;
                    }
                }
            }
            return NONE;
        }

        private boolean isLeast(int set) {
            for (int part = 0; part < set; part++) {
                if ((part & ~set) == 0 && fit.get(part) == 1) {
                    return false;
                }
            }
            return fit.get(set) == 1;
        }

        boolean standsBetween(int from, int on, int set) {
            if (holds(graph.below(1 << from, graph.all() & ~set), on)) {
                return false;
            }
            for (int variable = 0; variable < graph.size(); variable++) {
                if (holds(set, variable)
                        && (paths.find(from, variable, 0, 1 << from)
                        || paths.find(variable, on, 1 << from, set))) {
                    return false;
                }
            }
            return true;
        }
    }

    /** The class of a graph without hidden causes, gathered once for each version of the graph. */
    private static final class Family {
        private final Graph graph;
        private final Row joined = new Row(MOST_VARIABLES);
        private final Row trial = new Row(MOST_VARIABLES);
        private final Row children = new Row(MOST_VARIABLES);
        private int members = 0;
        private int version = NONE;

        Family(Graph graph) {
            this.graph = graph;
        }

        int members() {
            return members;
        }

        /** Whether an arrow leads so in one graph of the class at least. */
        boolean hasArrow(int from, int to) {
            return holds(children.get(from), to);
        }

        void gather() {
            if (version == graph.version()) {
                return;
            }
            version = graph.version();
            members = 0;
            children.fill(0);
            trial.fill(0);
            for (int variable = 0; variable < graph.size(); variable++) {
                joined.put(variable, graph.parentsOf(variable) | graph.childrenOf(variable));
            }
            settle(0);
        }

        /** Points the arrows between a variable and the lower ones in each way that may be. */
        private void settle(int variable) {
            if (variable >= graph.size()) {
                addTrial();
                return;
            }
            int lower = joined.get(variable) & (1 << variable) - 1;
            for (int above = 0; above < 1 << variable; above++) {
                if ((above & ~lower) == 0) {
                    point(variable, above, lower & ~above);
                    if (isWithoutRing(variable) && isMetAlike(variable)) {
                        settle(variable + 1);
                    }
                }
            }
            point(variable, 0, 0);
        }

        private void addTrial() {
            members++;
            for (int child = 0; child < graph.size(); child++) {
                for (int parent = 0; parent < graph.size(); parent++) {
                    if (holds(trial.get(child), parent)) {
                        children.put(parent, children.get(parent) | 1 << child);
                    }
                }
            }
        }

        private void point(int variable, int above, int under) {
            trial.put(variable, above);
            for (int other = 0; other < variable; other++) {
                int rest = trial.get(other) & ~(1 << variable);
                trial.put(other, holds(under, other) ? rest | 1 << variable : rest);
            }
        }

        private boolean isWithoutRing(int variable) {
            int found = trial.get(variable);
            for (int round = 0; round < variable; round++) {
                for (int other = 0; other < variable; other++) {
                    if (holds(found, other)) {
                        found |= trial.get(other);
                    }
                }
            }
            return !holds(found, variable);
        }

        /** Whether, up to a variable, the same ones are met from the same two unjoined ones. */
        private boolean isMetAlike(int variable) {
            int settled = (2 << variable) - 1;
            for (int target = 0; target <= variable; target++) {
                int real = graph.parentsOf(target) & settled;
                for (int source = 0; source <= variable; source++) {
                    if (metWith(trial.get(target), source) != metWith(real, source)) {
                        return false;
                    }
                }
            }
            return true;
        }

        private int metWith(int parents, int source) {
            return holds(parents, source) ? parents & ~joined.get(source) & ~(1 << source) : 0;
        }
    }
}
