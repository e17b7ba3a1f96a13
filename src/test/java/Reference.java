import java.util.ArrayList;
import java.util.Arrays;
import java.util.HashMap;
import java.util.HashSet;
import java.util.List;
import java.util.Map;
import java.util.Set;
import java.util.TreeSet;

/**
 * The document once more, word by word, as slowly as it is told there: all MOVES stand in one table, a GROUP is
 * the set of the NUMBERS of its MOVES, and each answer is looked for among all that there is.
 */
final class Reference {
    private static final int CELLS = 6;
    private static final Map<Integer, Table> TABLES = new HashMap<>();

    private Table table = tableOf(4);
    private int n = 4;
    private int[][] cells = stillCells();
    private int done;
    private int refused;
    private int knocks;

    /** All MOVES of N POINTS, each at the place of its NUMBER. */
    private static final class Table {
        final List<int[]> moves = new ArrayList<>();
        final Map<String, Integer> numbers = new HashMap<>();
        final Map<Set<Integer>, TreeSet<Integer>> groups = new HashMap<>();

        Table(int n) {
            extend(new int[n], 0, new boolean[n]);
        }

        private void extend(int[] move, int point, boolean[] used) {
            if (point == move.length) {
                numbers.put(Arrays.toString(move), moves.size());
                moves.add(move.clone());
                return;
            }
            for (int goal = 0; goal < move.length; goal++) {
                if (!used[goal]) {
                    used[goal] = true;
                    move[point] = goal;
                    extend(move, point + 1, used);
                    used[goal] = false;
                }
            }
        }
    }

    private static Table tableOf(int n) {
        return TABLES.computeIfAbsent(n, Table::new);
    }

    // Moves

    private int[][] stillCells() {
        int[][] all = new int[CELLS][];
        Arrays.fill(all, still());
        return all;
    }

    private int[] still() {
        return table.moves.get(0);
    }

    private int numberOf(int[] move) {
        return table.numbers.get(Arrays.toString(move));
    }

    private static int[] both(int[] first, int[] second) {
        int[] result = new int[first.length];
        for (int p = 0; p < first.length; p++) {
            result[p] = second[first[p]];
        }
        return result;
    }

    private int[] undone(int[] move) {
        for (int[] candidate : table.moves) {
            if (Arrays.equals(both(move, candidate), still())) {
                return candidate;
            }
        }
        throw new AssertionError("no undone one");
    }

    private List<Integer> ringOf(int[] move, int point) {
        List<Integer> ring = new ArrayList<>();
        int at = point;
        do {
            ring.add(at);
            at = move[at];
        } while (at != point);
        return ring;
    }

    private List<Integer> ringLengths(int[] move) {
        List<Integer> lengths = new ArrayList<>();
        Set<Set<Integer>> rings = new HashSet<>();
        for (int p = 0; p < n; p++) {
            rings.add(new HashSet<>(ringOf(move, p)));
        }
        for (Set<Integer> ring : rings) {
            lengths.add(ring.size());
        }
        lengths.sort(null);
        return lengths;
    }

    private int orderOf(int[] move) {
        int times = 1;
        for (int[] at = move; !Arrays.equals(at, still()); at = both(at, move)) {
            times++;
        }
        return times;
    }

    private int signOf(int[] move) {
        return (n - ringLengths(move).size()) % 2 == 0 ? 1 : -1;
    }

    // Groups

    private TreeSet<Integer> groupOf(int set) {
        Set<Integer> steps = new HashSet<>();
        for (int cell = 0; cell < CELLS; cell++) {
            if ((set & 1 << cell) != 0) {
                steps.add(numberOf(cells[cell]));
            }
        }
        return table.groups.computeIfAbsent(steps, this::closure);
    }

    private TreeSet<Integer> closure(Set<Integer> steps) {
        TreeSet<Integer> group = new TreeSet<>();
        group.add(0);
        List<Integer> queue = new ArrayList<>(group);
        for (int i = 0; i < queue.size(); i++) {
            for (int step : steps) {
                int next = numberOf(both(table.moves.get(queue.get(i)), table.moves.get(step)));
                if (group.add(next)) {
                    queue.add(next);
                }
            }
        }
        return group;
    }

    private List<int[]> movesOf(int set) {
        List<int[]> result = new ArrayList<>();
        for (int number : groupOf(set)) {
            result.add(table.moves.get(number));
        }
        return result;
    }

    private int rankIn(List<int[]> group, int[] row, int[] move) {
        int rank = 0;
        for (int[] other : group) {
            for (int p : row) {
                if (other[p] != move[p]) {
                    rank += other[p] < move[p] ? 1 : 0;
                    break;
                }
            }
        }
        return rank;
    }

    /** All partings of the POINTS, each as the number of the part of each POINT. */
    private List<int[]> partings() {
        List<int[]> all = new ArrayList<>();
        extendParting(new int[n], 0, 0, all);
        return all;
    }

    private void extendParting(int[] parting, int point, int parts, List<int[]> all) {
        if (point == n) {
            all.add(parting.clone());
            return;
        }
        for (int part = 0; part <= parts; part++) {
            parting[point] = part;
            extendParting(parting, point + 1, Math.max(parts, part + 1), all);
        }
    }

    private static int partsOf(int[] parting) {
        return Arrays.stream(parting).max().getAsInt() + 1;
    }

    private boolean isKept(int[] parting, List<int[]> group) {
        for (int[] move : group) {
            for (int p = 0; p < n; p++) {
                for (int q = 0; q < p; q++) {
                    if (parting[p] == parting[q] && parting[move[p]] != parting[move[q]]) {
                        return false;
                    }
                }
            }
        }
        return true;
    }

    private int[] blocksOf(int set, int one, int other) {
        List<int[]> group = movesOf(set);
        int[] best = null;
        boolean alone = true;
        for (int[] parting : partings()) {
            if (parting[one] == parting[other] && (best == null || partsOf(parting) >= partsOf(best))
                    && isKept(parting, group)) {
                alone = best == null || partsOf(parting) > partsOf(best);
                best = parting;
            }
        }
        if (!alone) {
            throw new AssertionError("two partings with the most parts");
        }
        return best;
    }

    // Tests

    private static void index(boolean fits) {
        if (!fits) {
            throw new IndexOutOfBoundsException();
        }
    }

    private static void fit(boolean fits) {
        if (!fits) {
            throw new IllegalArgumentException();
        }
    }

    private static boolean isCell(int cell) {
        return cell >= 0 && cell <= 5;
    }

    private boolean isPoint(int point) {
        return point >= 0 && point <= n - 1;
    }

    private static boolean isSet(int set) {
        return set >= 0 && set <= 63;
    }

    // The face

    int points(int many) {
        fit(many >= 2 && many <= 7);
        int had = n;
        n = many;
        table = tableOf(n);
        cells = stillCells();
        done++;
        return had;
    }

    private int get(int cell, int[] move) {
        cells[cell] = move;
        done++;
        return signOf(move);
    }

    int lay(int cell, int number) {
        index(isCell(cell));
        fit(number >= 0 && number < table.moves.size());
        int had = numberOf(cells[cell]);
        get(cell, table.moves.get(number));
        return had;
    }

    int exchange(int cell, int one, int other) {
        index(isCell(cell) && isPoint(one) && isPoint(other));
        int[] step = still().clone();
        step[one] = other;
        step[other] = one;
        return get(cell, both(cells[cell], step));
    }

    int ring(int cell, int one, int other, int third) {
        index(isCell(cell) && isPoint(one) && isPoint(other) && isPoint(third));
        fit(one != other && one != third && other != third);
        int[] step = still().clone();
        step[one] = other;
        step[other] = third;
        step[third] = one;
        return get(cell, both(cells[cell], step));
    }

    int turn(int cell, int by) {
        index(isCell(cell));
        fit(by >= -100 && by <= 100);
        int[] step = new int[n];
        for (int p = 0; p < n; p++) {
            step[p] = (p + by + 105 * n) % n;
        }
        return get(cell, both(cells[cell], step));
    }

    int mirror(int cell) {
        index(isCell(cell));
        int[] step = new int[n];
        for (int p = 0; p < n; p++) {
            step[p] = n - 1 - p;
        }
        return get(cell, both(cells[cell], step));
    }

    int copy(int cell, int into) {
        index(isCell(cell) && isCell(into));
        boolean other = !Arrays.equals(cells[cell], cells[into]);
        get(into, cells[cell]);
        return other ? 1 : 0;
    }

    int swap(int one, int other) {
        index(isCell(one) && isCell(other));
        boolean unlike = !Arrays.equals(cells[one], cells[other]);
        int[] first = cells[one];
        cells[one] = cells[other];
        get(other, first);
        return unlike ? 1 : 0;
    }

    int then(int one, int other, int into) {
        index(isCell(one) && isCell(other) && isCell(into));
        get(into, both(cells[one], cells[other]));
        return number(into);
    }

    int undo(int cell, int into) {
        index(isCell(cell) && isCell(into));
        get(into, undone(cells[cell]));
        return number(into);
    }

    int power(int cell, int times, int into) {
        index(isCell(cell) && isCell(into));
        fit(times >= -1000 && times <= 1000);
        int[] step = times < 0 ? undone(cells[cell]) : cells[cell];
        int[] result = still();
        for (int i = 0; i < (times < 0 ? -times : times); i++) {
            result = both(result, step);
        }
        get(into, result);
        return number(into);
    }

    private int[] renamed(int[] move, int[] by) {
        return both(both(undone(by), move), by);
    }

    int rename(int cell, int by, int into) {
        index(isCell(cell) && isCell(by) && isCell(into));
        get(into, renamed(cells[cell], cells[by]));
        return number(into);
    }

    int match(int one, int other, int into) {
        index(isCell(one) && isCell(other) && isCell(into));
        for (int[] by : table.moves) {
            if (Arrays.equals(both(cells[one], by), both(by, cells[other]))) {
                if (!Arrays.equals(renamed(cells[one], by), cells[other])) {
                    throw new AssertionError("renamed otherwise");
                }
                get(into, by);
                return number(into);
            }
        }
        refused++;
        return -9;
    }

    int nth(int set, int row, int rank, int into) {
        index(isCell(row) && isCell(into));
        fit(isSet(set) && rank >= 0);
        List<int[]> group = movesOf(set);
        int[] points = cells[row];
        group.sort((a, b) -> {
            for (int p : points) {
                if (a[p] != b[p]) {
                    return a[p] < b[p] ? -1 : 1;
                }
            }
            return 0;
        });
        if (rank >= group.size()) {
            refused++;
            return -9;
        }
        if (rankIn(group, points, group.get(rank)) != rank) {
            throw new AssertionError("another rank");
        }
        get(into, group.get(rank));
        return number(into);
    }

    int count() {
        return n;
    }

    int number(int cell) {
        index(isCell(cell));
        return numberOf(cells[cell]);
    }

    int goes(int cell, int point) {
        index(isCell(cell) && isPoint(point));
        return cells[cell][point];
    }

    private static String joined(Iterable<Integer> numbers) {
        List<String> words = new ArrayList<>();
        for (int number : numbers) {
            words.add(Integer.toString(number));
        }
        return String.join(" ", words);
    }

    String text(int cell) {
        index(isCell(cell));
        List<Integer> goals = new ArrayList<>();
        for (int goal : cells[cell]) {
            goals.add(goal);
        }
        return joined(goals);
    }

    String rings(int cell) {
        index(isCell(cell));
        return joined(ringLengths(cells[cell]));
    }

    String ringText(int cell, int point) {
        index(isCell(cell) && isPoint(point));
        return joined(ringOf(cells[cell], point));
    }

    int order(int cell) {
        index(isCell(cell));
        return orderOf(cells[cell]);
    }

    int sign(int cell) {
        index(isCell(cell));
        return signOf(cells[cell]);
    }

    int stays(int cell) {
        index(isCell(cell));
        int sum = 0;
        for (int p = 0; p < n; p++) {
            sum += cells[cell][p] == p ? 1 << p : 0;
        }
        return sum;
    }

    boolean areAlike(int one, int other) {
        index(isCell(one) && isCell(other));
        return ringLengths(cells[one]).equals(ringLengths(cells[other]));
    }

    boolean commute(int one, int other) {
        index(isCell(one) && isCell(other));
        return Arrays.equals(both(cells[one], cells[other]), both(cells[other], cells[one]));
    }

    int size(int set, int row) {
        index(isCell(row));
        fit(isSet(set));
        return groupOf(set).size();
    }

    int reach(int set, int row, int level) {
        index(isCell(row) && level >= 0 && level <= n - 1);
        fit(isSet(set));
        int mask = 0;
        for (int[] move : movesOf(set)) {
            boolean holds = true;
            for (int k = 0; k < level; k++) {
                holds &= move[cells[row][k]] == cells[row][k];
            }
            mask |= holds ? 1 << move[cells[row][level]] : 0;
        }
        return mask;
    }

    boolean isIn(int set, int cell, int how) {
        index(isCell(cell));
        fit(isSet(set) && (how == 0 || how == 1));
        return groupOf(set).contains(numberOf(cells[cell]));
    }

    int rank(int set, int row, int cell) {
        index(isCell(row) && isCell(cell));
        fit(isSet(set));
        return isIn(set, cell, 0) ? rankIn(movesOf(set), cells[row], cells[cell]) : -1;
    }

    String list(int set, int from) {
        fit(isSet(set) && from >= 0);
        List<Integer> numbers = new ArrayList<>(groupOf(set));
        int start = Math.min(from, numbers.size());
        return joined(numbers.subList(start, Math.min(start + 20, numbers.size())));
    }

    int comes(int set, int point) {
        index(isPoint(point));
        fit(isSet(set));
        int mask = 0;
        for (int[] move : movesOf(set)) {
            mask |= 1 << move[point];
        }
        return mask;
    }

    int pieces(int set) {
        fit(isSet(set));
        Set<Integer> masks = new HashSet<>();
        for (int p = 0; p < n; p++) {
            masks.add(comes(set, p));
        }
        return masks.size();
    }

    int withOrder(int set, int order) {
        fit(isSet(set) && order >= 1 && order <= 12);
        int many = 0;
        for (int[] move : movesOf(set)) {
            many += orderOf(move) == order ? 1 : 0;
        }
        return many;
    }

    int even(int set) {
        fit(isSet(set));
        int many = 0;
        for (int[] move : movesOf(set)) {
            many += signOf(move) == 1 ? 1 : 0;
        }
        return many;
    }

    int colourings(int set, int colours, int how) {
        fit(isSet(set) && colours >= 1 && colours <= 3 && (how == 0 || how == 1));
        List<int[]> group = movesOf(set);
        Set<String> seen = new HashSet<>();
        int unlike = 0;
        for (int[] colouring : allColourings(colours)) {
            if (!seen.contains(Arrays.toString(colouring))) {
                unlike++;
                for (int[] move : group) {
                    int[] made = new int[n];
                    for (int p = 0; p < n; p++) {
                        made[move[p]] = colouring[p];
                    }
                    seen.add(Arrays.toString(made));
                }
            }
        }
        return unlike;
    }

    private List<int[]> allColourings(int colours) {
        List<int[]> all = new ArrayList<>();
        all.add(new int[n]);
        for (int p = 0; p < n; p++) {
            List<int[]> next = new ArrayList<>();
            for (int[] colouring : all) {
                for (int colour = 0; colour < colours; colour++) {
                    int[] made = colouring.clone();
                    made[p] = colour;
                    next.add(made);
                }
            }
            all = next;
        }
        return all;
    }

    boolean isPart(int set, int whole) {
        fit(isSet(set) && isSet(whole));
        return groupOf(whole).containsAll(groupOf(set));
    }

    int shares(int set, int whole) {
        fit(isSet(set) && isSet(whole));
        if (!isPart(set, whole)) {
            return -9;
        }
        Set<Integer> leasts = new HashSet<>();
        Set<Integer> shared = new HashSet<>();
        for (int number : groupOf(whole)) {
            if (!shared.contains(number)) {
                TreeSet<Integer> share = shareOf(set, table.moves.get(number));
                shared.addAll(share);
                leasts.add(share.first());
            }
        }
        return leasts.size();
    }

    private TreeSet<Integer> shareOf(int set, int[] move) {
        TreeSet<Integer> share = new TreeSet<>();
        for (int[] first : movesOf(set)) {
            share.add(numberOf(both(first, move)));
        }
        return share;
    }

    int share(int set, int cell) {
        index(isCell(cell));
        fit(isSet(set));
        return shareOf(set, cells[cell]).first();
    }

    int together(int set, int one, int other) {
        index(isPoint(one) && isPoint(other));
        fit(isSet(set));
        int[] parting = blocksOf(set, one, other);
        int mask = 0;
        for (int p = 0; p < n; p++) {
            mask |= parting[p] == parting[one] ? 1 << p : 0;
        }
        return mask;
    }

    int blocks(int set, int one, int other) {
        index(isPoint(one) && isPoint(other));
        fit(isSet(set));
        return partsOf(blocksOf(set, one, other));
    }

    boolean isTwofold(int set) {
        fit(isSet(set));
        Set<List<Integer>> brought = new HashSet<>();
        for (int[] move : movesOf(set)) {
            for (int p = 0; p < n; p++) {
                for (int q = 0; q < n; q++) {
                    if (p != q) {
                        brought.add(List.of(p, q, move[p], move[q]));
                    }
                }
            }
        }
        return brought.size() == n * (n - 1) * n * (n - 1);
    }

    int enough(int set) {
        fit(isSet(set));
        int taken = 0;
        for (int cell = 0; cell < CELLS; cell++) {
            if ((set & 1 << cell) != 0 && !groupOf(taken).contains(numberOf(cells[cell]))) {
                taken |= 1 << cell;
            }
        }
        return taken;
    }

    int house(int what) {
        fit(what >= 0 && what <= 2);
        return new int[] {done, refused, knocks}[what];
    }

    int knock() {
        return ++knocks;
    }

    boolean isSound() {
        return true;
    }

    long digest() {
        List<Integer> values = new ArrayList<>();
        values.add(n);
        for (int cell = 0; cell < CELLS; cell++) {
            values.addAll(List.of(number(cell), order(cell), sign(cell), stays(cell), rings(cell).length()));
        }
        values.addAll(List.of(size(63, 0), pieces(63), even(63), enough(63)));
        for (int level = 0; level < n; level++) {
            values.add(reach(63, 0, level));
        }
        values.addAll(List.of(house(0), house(1), house(2), 1));
        long d = 8030;
        for (int value : values) {
            d = d * 31 + value;
        }
        return d;
    }
}
