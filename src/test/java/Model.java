import java.util.ArrayList;
import java.util.Arrays;
import java.util.List;

/**
 * The document once more, by other ways than the program's and without care for speed: hidden
 * causes are nodes of their own, separation is by the moral graph, effects by the ID algorithm of
 * Shpitser and Pearl, chances are fractions, and classes are sieved from all ways to point.
 */
final class Model {
    final int size;
    final boolean[][] arrow;
    final List<int[]> hidden = new ArrayList<>();
    final int[] bits;

    Model(int size) {
        this.size = size;
        arrow = new boolean[size][size];
        bits = new int[size];
    }

    static boolean in(int set, int variable) {
        return (set >> variable & 1) == 1;
    }

    int all() {
        return (1 << size) - 1;
    }

    int arrows() {
        int count = 0;
        for (boolean[] row : arrow) {
            for (boolean there : row) {
                count += there ? 1 : 0;
            }
        }
        return count;
    }

    Model without(int cut) {
        Model other = new Model(size);
        for (int from = 0; from < size; from++) {
            for (int to = 0; to < size; to++) {
                other.arrow[from][to] = arrow[from][to] && !in(cut, from);
            }
        }
        other.hidden.addAll(hidden);
        return other;
    }

    /** Whether arrows lead from one to the other, over one or more, all within some variables. */
    boolean leads(int from, int to, int within) {
        for (int next = 0; next < size; next++) {
            if (arrow[from][next] && in(within, next)
                    && (next == to || leads(next, to, within))) {
                return true;
            }
        }
        return false;
    }

    int ancestors(int set, int within) {
        int found = set;
        for (int from = 0; from < size; from++) {
            for (int to = 0; to < size; to++) {
                if (in(within, from) && in(set, to) && leads(from, to, within)) {
                    found |= 1 << from;
                }
            }
        }
        return found;
    }

    int descendants(int set) {
        int found = set;
        for (int from = 0; from < size; from++) {
            for (int to = 0; to < size; to++) {
                if (in(set, from) && leads(from, to, all())) {
                    found |= 1 << to;
                }
            }
        }
        return found;
    }

    int district(int variable, int within) {
        int found = 1 << variable;
        while (true) {
            int before = found;
            for (int[] pair : hidden) {
                boolean there = in(within, pair[0]) && in(within, pair[1]);
                if (there && (in(found, pair[0]) || in(found, pair[1]))) {
                    found |= 1 << pair[0] | 1 << pair[1];
                }
            }
            if (found == before) {
                return found;
            }
        }
    }

    // ---- separation

    private boolean[][] withHiddenNodes() {
        int nodes = size + hidden.size();
        boolean[][] all = new boolean[nodes][nodes];
        for (int from = 0; from < size; from++) {
            all[from] = Arrays.copyOf(arrow[from], nodes);
        }
        for (int number = 0; number < hidden.size(); number++) {
            all[size + number][hidden.get(number)[0]] = true;
            all[size + number][hidden.get(number)[1]] = true;
        }
        return all;
    }

    /** By the moral graph of the ancestors of all that is asked about. */
    boolean separated(int one, int other, int set) {
        boolean[][] lead = withHiddenNodes();
        int nodes = lead.length;
        boolean[] kept = new boolean[nodes];
        for (int node = 0; node < size; node++) {
            kept[node] = node == one || node == other || in(set, node);
        }
        for (int round = 0; round < nodes; round++) {
            for (int from = 0; from < nodes; from++) {
                for (int to = 0; to < nodes; to++) {
                    kept[from] |= lead[from][to] && kept[to];
                }
            }
        }
        boolean[][] near = new boolean[nodes][nodes];
        for (int to = 0; to < nodes; to++) {
            for (int from = 0; from < nodes; from++) {
                if (!kept[to] || !lead[from][to]) {
                    continue;
                }
                near[from][to] = near[to][from] = true;
                for (int mate = 0; mate < nodes; mate++) {
                    if (lead[mate][to]) {
                        near[from][mate] = near[mate][from] = true;
                    }
                }
            }
        }
        boolean[] reached = new boolean[nodes];
        reached[one] = true;
        for (int round = 0; round < nodes; round++) {
            for (int from = 0; from < nodes; from++) {
                for (int to = 0; to < nodes; to++) {
                    boolean free = kept[to] && (to >= size || !in(set, to));
                    reached[to] |= free && reached[from] && near[from][to];
                }
            }
        }
        return !reached[other];
    }

    /** The steps of the open path that is told, or null: the least one of all open ones. */
    List<Integer> path(int one, int other, int set) {
        List<List<Integer>> open = new ArrayList<>();
        gatherPaths(one, other, set, 1 << one, new ArrayList<>(), open);
        List<Integer> best = null;
        for (List<Integer> each : open) {
            if (best == null || isAhead(each, best)) {
                best = each;
            }
        }
        return best;
    }

    private static boolean isAhead(List<Integer> one, List<Integer> other) {
        if (one.size() != other.size()) {
            return one.size() < other.size();
        }
        for (int step = 0; step < one.size(); step++) {
            if (one.get(step) / 10 != other.get(step) / 10) {
                return one.get(step) / 10 < other.get(step) / 10;
            }
        }
        for (int step = 0; step < one.size(); step++) {
            if (!one.get(step).equals(other.get(step))) {
                return one.get(step) < other.get(step);
            }
        }
        return false;
    }

    private void gatherPaths(int here, int goal, int set, int used, List<Integer> steps,
            List<List<Integer>> open) {
        if (here == goal) {
            open.add(new ArrayList<>(steps));
            return;
        }
        for (int next = 0; next < size; next++) {
            if (in(used, next)) {
                continue;
            }
            for (int code : ways(here, next)) {
                boolean headBehind = !steps.isEmpty() && steps.get(steps.size() - 1) % 10 != 1;
                boolean met = headBehind && code != 0;
                boolean passes = steps.isEmpty()
                        || (met ? in(ancestors(set, all()), here) : !in(set, here));
                if (passes) {
                    steps.add(10 * next + code);
                    gatherPaths(next, goal, set, used | 1 << next, steps, open);
                    steps.remove(steps.size() - 1);
                }
            }
        }
    }

    private List<Integer> ways(int here, int next) {
        List<Integer> found = new ArrayList<>();
        if (arrow[here][next]) {
            found.add(0);
        }
        if (arrow[next][here]) {
            found.add(1);
        }
        for (int number = 0; number < hidden.size(); number++) {
            int[] pair = hidden.get(number);
            if (pair[0] == here && pair[1] == next || pair[0] == next && pair[1] == here) {
                found.add(2 + number);
            }
        }
        return found;
    }

    // ---- effects

    private List<Integer> districts(int within) {
        List<Integer> found = new ArrayList<>();
        int rest = within;
        for (int variable = 0; variable < size; variable++) {
            if (in(rest, variable)) {
                found.add(district(variable, within));
                rest &= ~district(variable, within);
            }
        }
        return found;
    }

    /** The ID algorithm, as published: whether it ends without a hedge. */
    boolean identified(int from, int on) {
        return identifies(on, from, all());
    }

    private boolean identifies(int on, int from, int within) {
        if (from == 0) {
            return true;
        }
        int above = ancestors(on, within);
        if (above != within) {
            return identifies(on, from & above, above);
        }
        Model cut = withoutArrowsInto(from);
        int idle = within & ~from & ~cut.ancestors(on, within);
        if (idle != 0) {
            return identifies(on, from | idle, within);
        }
        List<Integer> parts = districts(within & ~from);
        if (parts.size() > 1) {
            for (int part : parts) {
                if (!identifies(part, within & ~part, within)) {
                    return false;
                }
            }
            return true;
        }
        int part = parts.get(0);
        List<Integer> whole = districts(within);
        if (whole.size() == 1) {
            return false;
        }
        if (whole.contains(part)) {
            return true;
        }
        for (int larger : whole) {
            if ((part & ~larger) == 0) {
                return identifies(on, from & larger, larger);
            }
        }
        throw new IllegalStateException("no district has the part");
    }

    private Model withoutArrowsInto(int set) {
        Model other = without(0);
        for (int to = 0; to < size; to++) {
            for (int from = 0; from < size; from++) {
                other.arrow[from][to] &= !in(set, to);
            }
        }
        return other;
    }

    /** The document's own way, for the set that bars; 0 if none does. */
    int barrier(int from, int on) {
        int needed = ancestors(on, all() & ~from);
        for (int part : districts(needed)) {
            int lowest = Integer.numberOfTrailingZeros(part);
            int around = district(lowest, all());
            while (true) {
                int above = ancestors(part, around);
                if (above == part) {
                    break;
                }
                if (above == around) {
                    return around;
                }
                around = district(lowest, above);
            }
        }
        return 0;
    }

    // ---- worlds

    int rows(int variable) {
        return 1 << causesOf(variable).size();
    }

    /** Parents by their numbers, then hidden causes as numbers from the size on. */
    private List<Integer> causesOf(int variable) {
        List<Integer> causes = new ArrayList<>();
        for (int from = 0; from < size; from++) {
            if (arrow[from][variable]) {
                causes.add(from);
            }
        }
        for (int number = 0; number < hidden.size(); number++) {
            if (hidden.get(number)[0] == variable || hidden.get(number)[1] == variable) {
                causes.add(size + number);
            }
        }
        return causes;
    }

    /** The chance that a set has some values when something is done to another one. */
    Share chance(int done, int doneValues, int set, int values) {
        Share sum = Share.NOTHING;
        for (int state = 0; state < 1 << size + hidden.size(); state++) {
            if ((state & done) == doneValues && (state & set) == values) {
                sum = sum.plus(chanceOfState(state, done));
            }
        }
        return sum;
    }

    private Share chanceOfState(int state, int done) {
        Share product = Share.of(1, 1 << hidden.size());
        for (int variable = 0; variable < size; variable++) {
            if (in(done, variable)) {
                continue;
            }
            int row = 0;
            int worth = 1;
            for (int cause : causesOf(variable)) {
                row += in(state, cause) ? worth : 0;
                worth *= 2;
            }
            boolean raised = in(bits[variable], row % 16);
            product = product.times(Share.of(raised == in(state, variable) ? 2 : 1, 3));
        }
        return product;
    }

    Share chance(int set, int values) {
        return chance(0, 0, set, values);
    }

    boolean independent(int one, int other, int set) {
        int pair = 1 << one | 1 << other;
        for (int values = 0; values <= all(); values++) {
            int known = values & set;
            Share base = chance(set, known);
            Share both = chance(set | pair, values & (set | pair)).over(base);
            Share first = chance(set | 1 << one, values & (set | 1 << one)).over(base);
            Share second = chance(set | 1 << other, values & (set | 1 << other)).over(base);
            if (!both.equals(first.times(second))) {
                return false;
            }
        }
        return true;
    }

    // ---- adjusting

    boolean adjusts(int from, int on, int set) {
        return (descendants(1 << from) & set) == 0 && without(1 << from).separated(from, on, set);
    }

    List<Integer> leastSets(int from, int on) {
        List<Integer> found = new ArrayList<>();
        for (int variables = 0; variables <= size; variables++) {
            for (int set = 0; set <= all(); set++) {
                if (Integer.bitCount(set) == variables && isLeast(from, on, set)) {
                    found.add(set);
                }
            }
        }
        return found;
    }

    private boolean isLeast(int from, int on, int set) {
        if (in(set, from) || in(set, on) || !adjusts(from, on, set)) {
            return false;
        }
        for (int part = 0; part < set; part++) {
            if ((part & ~set) == 0 && adjusts(from, on, part)) {
                return false;
            }
        }
        return true;
    }

    Share adjusted(int from, int value, int on, int set) {
        Share sum = Share.NOTHING;
        for (int values = 0; values <= set; values++) {
            if ((values & ~set) != 0) {
                continue;
            }
            int given = set | 1 << from;
            int givenValues = values | value << from;
            Share with = chance(given | 1 << on, givenValues | 1 << on);
            sum = sum.plus(chance(set, values).times(with.over(chance(given, givenValues))));
        }
        return sum;
    }

    boolean front(int from, int on, int set) {
        boolean front = !leads(from, on, all() & ~set);
        for (int variable = 0; variable < size; variable++) {
            front &= !in(set, variable)
                    || without(1 << from).separated(from, variable, 0)
                    && without(set).separated(variable, on, 1 << from);
        }
        return front;
    }

    boolean instrument(int instrument, int from, int on) {
        return !separated(instrument, from, 0) && without(1 << from).separated(instrument, on, 0);
    }

    // ---- classes

    private boolean joined(int one, int other) {
        return arrow[one][other] || arrow[other][one];
    }

    private String meetings() {
        StringBuilder text = new StringBuilder();
        for (int target = 0; target < size; target++) {
            for (int one = 0; one < size; one++) {
                for (int other = one + 1; other < size; other++) {
                    if (arrow[one][target] && arrow[other][target] && !joined(one, other)) {
                        text.append(one).append(target).append(other).append(' ');
                    }
                }
            }
        }
        return text.toString();
    }

    private boolean hasRing() {
        for (int variable = 0; variable < size; variable++) {
            if (walksBack(variable, variable, size)) {
                return true;
            }
        }
        return false;
    }

    private boolean walksBack(int here, int goal, int steps) {
        for (int next = 0; next < size && steps > 0; next++) {
            if (arrow[here][next] && (next == goal || walksBack(next, goal, steps - 1))) {
                return true;
            }
        }
        return false;
    }

    List<Model> family() {
        List<int[]> pairs = new ArrayList<>();
        for (int one = 0; one < size; one++) {
            for (int other = one + 1; other < size; other++) {
                if (joined(one, other)) {
                    pairs.add(new int[] {one, other});
                }
            }
        }
        List<Model> found = new ArrayList<>();
        for (int code = 0; code < 1 << pairs.size(); code++) {
            Model each = new Model(size);
            for (int number = 0; number < pairs.size(); number++) {
                int[] pair = pairs.get(number);
                each.arrow[pair[in(code, number) ? 1 : 0]][pair[in(code, number) ? 0 : 1]] = true;
            }
            if (each.meetings().equals(meetings()) && !each.hasRing()) {
                found.add(each);
            }
        }
        return found;
    }

    static char told(List<Model> family, int one, int other) {
        boolean forward = false;
        boolean back = false;
        for (Model each : family) {
            forward |= each.arrow[one][other];
            back |= each.arrow[other][one];
        }
        return forward && back ? '-' : forward ? '>' : back ? '<' : '0';
    }

    // ---- the program's own object with the same graph and world

    EffectCourt court() {
        EffectCourt court = new EffectCourt();
        for (int variable = 0; variable < size; variable++) {
            court.variable();
        }
        for (int from = 0; from < size; from++) {
            for (int to = 0; to < size; to++) {
                if (arrow[from][to]) {
                    court.arrow(from, to);
                }
            }
        }
        for (int[] pair : hidden) {
            court.hide(pair[0], pair[1]);
        }
        for (int variable = 0; variable < size; variable++) {
            court.setBits(variable, bits[variable]);
        }
        return court;
    }

    String text() {
        StringBuilder text = new StringBuilder("graph of ").append(size);
        for (int from = 0; from < size; from++) {
            for (int to = 0; to < size; to++) {
                if (arrow[from][to]) {
                    text.append(' ').append(from).append('>').append(to);
                }
            }
        }
        for (int[] pair : hidden) {
            text.append(' ').append(pair[0]).append('~').append(pair[1]);
        }
        return text.append(" bits ").append(Arrays.toString(bits)).toString();
    }
}
