import java.util.Arrays;

/**
 * Six moves of two to seven points, and what can be reached by doing some of them again and again.
 * Words in capitals (POINT, MOVE, CELL, SET, GROUP, ROW, ...) are the document's.
 */
public final class Swaphouse {
    private static final int FEWEST_POINTS = 2;
    private static final int MOST_POINTS = 7;
    private static final int MOST_MOVES = 5040;
    private static final int MOST_COLOURS = 3;
    private static final int MOST_COLOURINGS = 2187;
    private static final int MOST_TIMES = 1000;
    private static final int MOST_TURN = 100;
    private static final int GREATEST_ORDER = 12;
    private static final int CELLS = 6;
    private static final int ALL_CELLS = 63;
    private static final int LIST_LENGTH = 20;
    private static final int CANNOT = -9;

    private final int[] moves = new int[CELLS];
    private final Chain chain = new Chain();
    private final Walk walk = new Walk();
    private final Parting parting = new Parting();
    private final Palette palette = new Palette();
    private int n = 4;
    private int done = 0;
    private int refused = 0;
    private int knocks = 0;

    public Swaphouse() {
        Arrays.fill(moves, Move.STILL);
    }

    // Moves, made

    public int points(int many) throws IllegalArgumentException {
        needBetween(many, FEWEST_POINTS, MOST_POINTS);
        int had = n;
        n = many;
        Arrays.fill(moves, Move.STILL);
        done++;
        return had;
    }

    public int lay(int cell, int number) throws IndexOutOfBoundsException, IllegalArgumentException {
        needCell(cell);
        needBetween(number, 0, Move.factorial(n) - 1);
        int had = Move.numberOf(moves[cell], n);
        keep(cell, Move.withNumber(number, n));
        return had;
    }

    public int exchange(int cell, int one, int other) throws IndexOutOfBoundsException {
        needCell(cell);
        needPoint(one);
        needPoint(other);
        int step = Move.with(Move.with(Move.STILL, one, other), other, one);
        return keepForSign(cell, Move.both(moves[cell], step));
    }

    public int ring(int cell, int one, int other, int third)
            throws IndexOutOfBoundsException, IllegalArgumentException {
        needCell(cell);
        needPoint(one);
        needPoint(other);
        needPoint(third);
        need(one != other && other != third && third != one);
        int step = Move.with(Move.with(Move.with(Move.STILL, one, other), other, third), third, one);
        return keepForSign(cell, Move.both(moves[cell], step));
    }

    public int turn(int cell, int by) throws IndexOutOfBoundsException, IllegalArgumentException {
        needCell(cell);
        needBetween(by, -MOST_TURN, MOST_TURN);
        int step = Move.STILL;
        for (int p = 0; p < n; p++) {
            step = Move.with(step, p, remainder(p + by, n));
        }
        return keepForSign(cell, Move.both(moves[cell], step));
    }

    public int mirror(int cell) throws IndexOutOfBoundsException {
        needCell(cell);
        int step = Move.STILL;
        for (int p = 0; p < n; p++) {
            step = Move.with(step, p, n - 1 - p);
        }
        return keepForSign(cell, Move.both(moves[cell], step));
    }

    public int copy(int cell, int into) throws IndexOutOfBoundsException {
        needCell(cell);
        needCell(into);
        int had = moves[into];
        keep(into, moves[cell]);
        return had != moves[into] ? 1 : 0;
    }

    public int swap(int one, int other) throws IndexOutOfBoundsException {
        needCell(one);
        needCell(other);
        int first = moves[one];
        int second = moves[other];
        moves[one] = second;
        keep(other, first);
        return first != second ? 1 : 0;
    }

    public int then(int one, int other, int into) throws IndexOutOfBoundsException {
        needCell(one);
        needCell(other);
        needCell(into);
        return keepForNumber(into, Move.both(moves[one], moves[other]));
    }

    public int undo(int cell, int into) throws IndexOutOfBoundsException {
        needCell(cell);
        needCell(into);
        return keepForNumber(into, Move.undone(moves[cell]));
    }

    public int power(int cell, int times, int into) throws IndexOutOfBoundsException, IllegalArgumentException {
        needCell(cell);
        needCell(into);
        needBetween(times, -MOST_TIMES, MOST_TIMES);
        int step = times < 0 ? Move.undone(moves[cell]) : moves[cell];
        return keepForNumber(into, Move.often(step, Math.abs(times)));
    }

    public int rename(int cell, int by, int into) throws IndexOutOfBoundsException {
        needCell(cell);
        needCell(by);
        needCell(into);
        int undone = Move.undone(moves[by]);
        return keepForNumber(into, Move.both(Move.both(undone, moves[cell]), moves[by]));
    }

    public int match(int one, int other, int into) throws IndexOutOfBoundsException {
        needCell(one);
        needCell(other);
        needCell(into);
        if (!Move.haveLikeRings(moves[one], moves[other])) {
            return cannot();
        }
        return keepForNumber(into, Move.firstRenamer(moves[one], moves[other], n));
    }

    public int nth(int set, int row, int rank, int into) throws IndexOutOfBoundsException, IllegalArgumentException {
        needCell(row);
        needCell(into);
        needSet(set);
        need(rank >= 0);
        chain.raise(moves, set, moves[row], n);
        if (rank >= chain.total()) {
            return cannot();
        }
        return keepForNumber(into, chain.moveAt(rank, Move.STILL));
    }

    // What is asked of moves

    public int count() {
        return n;
    }

    public int number(int cell) throws IndexOutOfBoundsException {
        needCell(cell);
        return Move.numberOf(moves[cell], n);
    }

    public int goes(int cell, int point) throws IndexOutOfBoundsException {
        needCell(cell);
        needPoint(point);
        return Move.goal(moves[cell], point);
    }

    public String text(int cell) throws IndexOutOfBoundsException {
        needCell(cell);
        StringBuilder words = new StringBuilder();
        for (int p = 0; p < n; p++) {
            addWord(words, Move.goal(moves[cell], p));
        }
        return words.toString();
    }

    public String rings(int cell) throws IndexOutOfBoundsException {
        needCell(cell);
        StringBuilder words = new StringBuilder();
        for (int length = 1; length <= n; length++) {
            for (int left = Move.ringsOfLength(moves[cell], length, n); left > 0; left--) {
                addWord(words, length);
            }
        }
        return words.toString();
    }

    public String ringText(int cell, int point) throws IndexOutOfBoundsException {
        needCell(cell);
        needPoint(point);
        StringBuilder words = new StringBuilder();
        int at = point;
        for (int left = Move.ringLength(moves[cell], point); left > 0; left--) {
            addWord(words, at);
            at = Move.goal(moves[cell], at);
        }
        return words.toString();
    }

    public int order(int cell) throws IndexOutOfBoundsException {
        needCell(cell);
        return Move.orderOf(moves[cell]);
    }

    public int sign(int cell) throws IndexOutOfBoundsException {
        needCell(cell);
        return Move.signOf(moves[cell], n);
    }

    public int stays(int cell) throws IndexOutOfBoundsException {
        needCell(cell);
        int stay = 0;
        for (int p = 0; p < n; p++) {
            if (Move.goal(moves[cell], p) == p) {
                stay |= 1 << p;
            }
        }
        return stay;
    }

    public boolean areAlike(int one, int other) throws IndexOutOfBoundsException {
        needCell(one);
        needCell(other);
        return Move.haveLikeRings(moves[one], moves[other]);
    }

    public boolean commute(int one, int other) throws IndexOutOfBoundsException {
        needCell(one);
        needCell(other);
        return Move.both(moves[one], moves[other]) == Move.both(moves[other], moves[one]);
    }

    // What is asked of groups

    public int size(int set, int row) throws IndexOutOfBoundsException, IllegalArgumentException {
        needCell(row);
        needSet(set);
        chain.raise(moves, set, moves[row], n);
        return chain.total();
    }

    public int reach(int set, int row, int level) throws IndexOutOfBoundsException, IllegalArgumentException {
        needCell(row);
        needPoint(level);
        needSet(set);
        chain.raise(moves, set, moves[row], n);
        return chain.reachAt(level);
    }

    public boolean isIn(int set, int cell, int how) throws IndexOutOfBoundsException, IllegalArgumentException {
        needCell(cell);
        needSet(set);
        needBetween(how, 0, 1);
        if (how == 0) {
            chain.raise(moves, set, Move.STILL, n);
            return chain.holds(moves[cell]);
        }
        walk.goThrough(moves, set, n);
        return walk.meets(moves[cell]);
    }

    public int rank(int set, int row, int cell) throws IndexOutOfBoundsException, IllegalArgumentException {
        needCell(row);
        needCell(cell);
        needSet(set);
        chain.raise(moves, set, moves[row], n);
        return chain.rankOf(moves[cell]);
    }

    public String list(int set, int from) throws IllegalArgumentException {
        needSet(set);
        need(from >= 0);
        // By the ROW 0, 1, 2 and so on the RANKS rise as the NUMBERS do.
        chain.raise(moves, set, Move.STILL, n);
        StringBuilder words = new StringBuilder();
        for (int rank = from; rank < chain.total() && rank - from < LIST_LENGTH; rank++) {
            addWord(words, Move.numberOf(chain.moveAt(rank, Move.STILL), n));
        }
        return words.toString();
    }

    public int comes(int set, int point) throws IndexOutOfBoundsException, IllegalArgumentException {
        needPoint(point);
        needSet(set);
        parting.joinComing(moves, set, n);
        return parting.partWith(point);
    }

    public int pieces(int set) throws IllegalArgumentException {
        needSet(set);
        parting.joinComing(moves, set, n);
        return parting.parts();
    }

    public int withOrder(int set, int order) throws IllegalArgumentException {
        needSet(set);
        needBetween(order, 1, GREATEST_ORDER);
        walk.goThrough(moves, set, n);
        return walk.howManyOfOrder(order);
    }

    public int even(int set) throws IllegalArgumentException {
        needSet(set);
        walk.goThrough(moves, set, n);
        return walk.howManyEven();
    }

    public int colourings(int set, int colours, int how) throws IllegalArgumentException {
        needSet(set);
        needBetween(colours, 1, MOST_COLOURS);
        needBetween(how, 0, 1);
        if (how == 0) {
            walk.goThrough(moves, set, n);
            return walk.colouringsByMean(colours);
        }
        return palette.colouringsOneByOne(moves, set, colours, n);
    }

    public boolean isPart(int set, int whole) throws IllegalArgumentException {
        needSet(set);
        needSet(whole);
        chain.raise(moves, whole, Move.STILL, n);
        return chain.holdsAll(moves, set);
    }

    public int shares(int set, int whole) throws IllegalArgumentException {
        needSet(set);
        needSet(whole);
        chain.raise(moves, whole, Move.STILL, n);
        if (!chain.holdsAll(moves, set)) {
            return CANNOT;
        }
        int all = chain.total();
        chain.raise(moves, set, Move.STILL, n);
        return quotient(all, chain.total());
    }

    public int share(int set, int cell) throws IndexOutOfBoundsException, IllegalArgumentException {
        needCell(cell);
        needSet(set);
        chain.raise(moves, set, Move.STILL, n);
        return Move.numberOf(chain.moveAt(0, moves[cell]), n);
    }

    public int together(int set, int one, int other) throws IndexOutOfBoundsException, IllegalArgumentException {
        needPoint(one);
        needPoint(other);
        needSet(set);
        parting.joinBlocks(moves, set, one, other, n);
        return parting.partWith(one);
    }

    public int blocks(int set, int one, int other) throws IndexOutOfBoundsException, IllegalArgumentException {
        needPoint(one);
        needPoint(other);
        needSet(set);
        parting.joinBlocks(moves, set, one, other, n);
        return parting.parts();
    }

    public boolean isTwofold(int set) throws IllegalArgumentException {
        needSet(set);
        // One POINT can come anywhere, and with it held, a second one to all others: then any two can.
        chain.raise(moves, set, Move.STILL, n);
        return Integer.bitCount(chain.reachAt(0)) == n && Integer.bitCount(chain.reachAt(1)) == n - 1;
    }

    public int enough(int set) throws IllegalArgumentException {
        needSet(set);
        chain.raise(moves, set, Move.STILL, n);
        return chain.takenCells();
    }

    // The whole

    public int house(int what) throws IllegalArgumentException {
        needBetween(what, 0, 2);
        if (what == 0) {
            return done;
        }
        return what == 1 ? refused : knocks;
    }

    public int knock() {
        knocks++;
        return knocks;
    }

    public boolean isSound() {
        raiseAll();
        return allAgrees();
    }

    public long digest() {
        raiseAll();
        long d = mix(8030L, n);
        for (int cell = 0; cell < CELLS; cell++) {
            d = mix(d, number(cell));
            d = mix(d, order(cell));
            d = mix(d, sign(cell));
            d = mix(d, stays(cell));
            d = mix(d, rings(cell).length());
        }
        d = mix(d, chain.total());
        d = mix(d, pieces(ALL_CELLS));
        d = mix(d, walk.howManyEven());
        d = mix(d, chain.takenCells());
        for (int level = 0; level < n; level++) {
            d = mix(d, chain.reachAt(level));
        }
        for (int what = 0; what <= 2; what++) {
            d = mix(d, house(what));
        }
        return mix(d, allAgrees() ? 1 : 0);
    }

    // What the acts share

    private void keep(int cell, int move) {
        moves[cell] = move;
        done++;
    }

    private int keepForSign(int cell, int move) {
        keep(cell, move);
        return Move.signOf(move, n);
    }

    private int keepForNumber(int cell, int move) {
        keep(cell, move);
        return Move.numberOf(move, n);
    }

    private int cannot() {
        refused++;
        return CANNOT;
    }

    // What isSound() looks at, of the GROUP of all CELLS by the ROW of the CELL 0

    private void raiseAll() {
        chain.raise(moves, ALL_CELLS, moves[0], n);
        walk.goThrough(moves, ALL_CELLS, n);
    }

    private boolean allAgrees() {
        // The last one raises the chain of another SET, so that it has to stay the last one.
        return sizesAgree() && ranksAgree() && signsAgree() && chain.holdsAll(moves, ALL_CELLS)
                && colouringsAgree() && enoughSuffices();
    }

    private boolean sizesAgree() {
        return chain.total() == walk.length() && divides(chain.total(), Move.factorial(n));
    }

    private boolean ranksAgree() {
        int total = chain.total();
        for (int rank = 0; rank < total; rank++) {
            int move = chain.moveAt(rank, Move.STILL);
            if (chain.rankOf(move) != rank || !divides(Move.orderOf(move), total)) {
                return false;
            }
        }
        return true;
    }

    private boolean signsAgree() {
        int evens = walk.howManyEven();
        return evens == walk.length() || 2 * evens == walk.length();
    }

    private boolean colouringsAgree() {
        return walk.colouringsByMean(2) == palette.colouringsOneByOne(moves, ALL_CELLS, 2, n);
    }

    private boolean enoughSuffices() {
        int total = chain.total();
        int taken = chain.takenCells();
        chain.raise(moves, taken, moves[0], n);
        return chain.total() == total && total >= 1 << Integer.bitCount(taken);
    }

    // Tests of arguments

    private static void needCell(int cell) {
        if (cell < 0 || cell >= CELLS) {
            throw new IndexOutOfBoundsException("there is no such cell");
        }
    }

    private void needPoint(int point) {
        if (point < 0 || point >= n) {
            throw new IndexOutOfBoundsException("there is no such point");
        }
    }

    private static void needSet(int set) {
        needBetween(set, 0, ALL_CELLS);
    }

    private static void needBetween(int value, int least, int most) {
        need(value >= least && value <= most);
    }

    private static void need(boolean fits) {
        if (!fits) {
            throw new IllegalArgumentException("an argument is outside what the document lets");
        }
    }

    // Small help

    private static void addWord(StringBuilder words, int number) {
        if (words.length() > 0) {
            words.append(' ');
        }
        words.append(number);
    }

    private static long mix(long d, long value) {
        return d * 31 + value;
    }

    private static int quotient(int what, int by) {
        return by < 1 ? 0 : what / by;
    }

    private static int remainder(int what, int by) {
        return by < 1 ? 0 : Math.floorMod(what, by);
    }

    private static boolean divides(int by, int what) {
        return by >= 1 && what % by == 0;
    }

    private static boolean has(int mask, int bit) {
        return (mask >> bit & 1) == 1;
    }

    private static int howManyBelow(int mask, int bit) {
        return Integer.bitCount(mask & (1 << bit) - 1);
    }

    /**
     * A MOVE is held as a number whose octal digit p is the POINT to which p is brought. Digits of points
     * from N on tell that these stay, so that most of what follows needs no N. Rows that a digit is an
     * index of have eight places, so that no digit can miss them.
     */
    private static final class Move {
        static final int STILL = 06543210;
        static final int PLACES = 8;

        private Move() {
        }

        static int goal(int move, int point) {
            return move >> 3 * point & 7;
        }

        static int with(int move, int point, int goal) {
            return move & ~(7 << 3 * point) | goal << 3 * point;
        }

        /** The MOVE that is: first, then second. */
        static int both(int first, int second) {
            int result = 0;
            for (int shift = 0; shift < 3 * MOST_POINTS; shift += 3) {
                result |= (second >> 3 * (first >> shift & 7) & 7) << shift;
            }
            return result;
        }

        static int undone(int move) {
            int result = 0;
            for (int p = 0; p < MOST_POINTS; p++) {
                result |= p << 3 * (move >> 3 * p & 7);
            }
            return result;
        }

        static int often(int move, int times) {
            int result = STILL;
            for (int i = 0; i < times; i++) {
                result = both(result, move);
            }
            return result;
        }

        static int factorial(int many) {
            int product = 1;
            for (int i = 2; i <= many; i++) {
                product *= i;
            }
            return product;
        }

        static int numberOf(int move, int n) {
            int number = 0;
            int free = (1 << n) - 1;
            for (int p = 0; p < n; p++) {
                int goal = goal(move, p);
                number = number * (n - p) + howManyBelow(free, goal);
                free &= ~(1 << goal);
            }
            return number;
        }

        static int withNumber(int number, int n) {
            int move = STILL;
            int rest = number;
            int free = (1 << n) - 1;
            for (int p = 0; p < n; p++) {
                int weight = factorial(n - 1 - p);
                int index = quotient(rest, weight);
                int goal = bitAt(free, index);
                rest -= index * weight;
                free &= ~(1 << goal);
                move = with(move, p, goal);
            }
            return move;
        }

        /** The POINT of a sum of 2^p, of which so many lesser ones are in it. */
        static int bitAt(int mask, int index) {
            for (int p = 0; p < MOST_POINTS; p++) {
                if (has(mask, p) && howManyBelow(mask, p) == index) {
                    return p;
                }
            }
            return 0;
        }

        /** All POINTS to which those of a sum of 2^p are brought. */
        static int goals(int move, int mask) {
            int result = 0;
            for (int p = 0; p < MOST_POINTS; p++) {
                if (has(mask, p)) {
                    result |= 1 << goal(move, p);
                }
            }
            return result;
        }

        static int source(int move, int goal) {
            for (int p = 0; p < MOST_POINTS; p++) {
                if (goal(move, p) == goal) {
                    return p;
                }
            }
            return 0;
        }

        static int ringOf(int move, int point) {
            int ring = 0;
            int at = point;
            for (int i = 0; i < MOST_POINTS && !has(ring, at); i++) {
                ring |= 1 << at;
                at = goal(move, at);
            }
            return ring;
        }

        static int ringLength(int move, int point) {
            return Integer.bitCount(ringOf(move, point));
        }

        static int ringsOfLength(int move, int length, int n) {
            int many = 0;
            for (int p = 0; p < n; p++) {
                int ring = ringOf(move, p);
                if (howManyBelow(ring, p) == 0 && Integer.bitCount(ring) == length) {
                    many++;
                }
            }
            return many;
        }

        static int howManyRings(int move, int n) {
            int many = 0;
            int seen = 0;
            for (int p = 0; p < n; p++) {
                if (!has(seen, p)) {
                    seen |= ringOf(move, p);
                    many++;
                }
            }
            return many;
        }

        static int orderOf(int move) {
            int result = move;
            int times = 1;
            while (times < GREATEST_ORDER && result != STILL) {
                result = both(result, move);
                times++;
            }
            return times;
        }

        static int signOf(int move, int n) {
            return (n - howManyRings(move, n)) % 2 == 0 ? 1 : -1;
        }

        static boolean haveLikeRings(int one, int other) {
            for (int length = 1; length <= MOST_POINTS; length++) {
                if (ringsOfLength(one, length, MOST_POINTS) != ringsOfLength(other, length, MOST_POINTS)) {
                    return false;
                }
            }
            return true;
        }

        /**
         * Of two MOVES with like RINGS, the MOVE with the least NUMBER by which RENAMED one is other. It has to
         * bring each RING of one to a RING of other, point by point; so the least NUMBER comes, if each ring, by
         * its least POINT, is brought to the first free POINT on a ring of that length.
         */
        static int firstRenamer(int one, int other, int n) {
            int result = STILL;
            int known = 0;
            int used = 0;
            for (int p = 0; p < n; p++) {
                if (!has(known, p)) {
                    int length = ringLength(one, p);
                    int goal = firstFree(other, used, length, n);
                    result = withRing(result, one, p, other, goal);
                    known |= ringOf(one, p);
                    used |= ringOf(other, goal);
                }
            }
            return result;
        }

        private static int firstFree(int move, int used, int length, int n) {
            for (int p = 0; p < n; p++) {
                if (!has(used, p) && ringLength(move, p) == length) {
                    return p;
                }
            }
            return 0;
        }

        private static int withRing(int renamer, int one, int from, int other, int to) {
            int result = renamer;
            int source = from;
            int goal = to;
            for (int left = ringLength(one, from); left > 0; left--) {
                result = with(result, source, goal);
                source = goal(one, source);
                goal = goal(other, goal);
            }
            return result;
        }
    }

    /**
     * The GROUP of a SET by REACH, LEVEL by LEVEL. For each POINT of the REACH at a LEVEL there is a step: a MOVE
     * of the GROUP that brings the ROW's POINTS ahead of the LEVEL to themselves and that of the LEVEL there.
     * Each MOVE of the GROUP is, in one way alone: a step of the last LEVEL, then one of the LEVEL ahead of it,
     * and so on, then one of the LEVEL 0.
     */
    private static final class Chain {
        private static final int MOST_STEPS = 21;

        private final int[] steps = new int[Move.PLACES * Move.PLACES];
        private final int[] stepsUndone = new int[Move.PLACES * Move.PLACES];
        private final int[] reaches = new int[Move.PLACES];
        private final int[] sizes = new int[Move.PLACES];
        private final int[] known = new int[MOST_STEPS];
        private int knownSteps = 0;
        private int taken = 0;
        private int row = Move.STILL;
        private int n = 0;

        void raise(int[] cells, int set, int byRow, int points) {
            n = points;
            row = byRow;
            knownSteps = 0;
            taken = 0;
            for (int level = 0; level < n; level++) {
                int point = Move.goal(row, level);
                reaches[level] = 1 << point;
                steps[place(level, point)] = Move.STILL;
            }
            for (int cell = 0; cell < cells.length; cell++) {
                if (has(set, cell) && admit(cells[cell])) {
                    taken |= 1 << cell;
                    close();
                }
            }
            measure();
        }

        int total() {
            return sizes[0];
        }

        int takenCells() {
            return taken;
        }

        int reachAt(int level) {
            return level < 0 || level >= n ? 0 : reaches[level];
        }

        boolean holds(int move) {
            return rankOf(move) >= 0;
        }

        boolean holdsAll(int[] cells, int set) {
            for (int cell = 0; cell < cells.length; cell++) {
                if (has(set, cell) && !holds(cells[cell])) {
                    return false;
                }
            }
            return true;
        }

        /** The RANK of a MOVE, or -1. */
        int rankOf(int move) {
            int rank = 0;
            int built = Move.STILL;
            for (int level = 0; level < n; level++) {
                int goals = Move.goals(built, reaches[level]);
                int goal = Move.goal(move, Move.goal(row, level));
                if (!has(goals, goal)) {
                    return -1;
                }
                rank += howManyBelow(goals, goal) * sizes[level + 1];
                built = Move.both(steps[place(level, Move.source(built, goal))], built);
            }
            return rank;
        }

        /** Of all MOVES that are A, then last, with A in the GROUP: the one of which so many are ahead by the ROW. */
        int moveAt(int rank, int last) {
            int rest = rank;
            int built = last;
            for (int level = 0; level < n; level++) {
                int goals = Move.goals(built, reaches[level]);
                int index = quotient(rest, sizes[level + 1]);
                rest -= index * sizes[level + 1];
                int point = Move.source(built, Move.bitAt(goals, index));
                built = Move.both(steps[place(level, point)], built);
            }
            return built;
        }

        /** Whether the MOVE was none that the steps make up; what it lacks is a step from then on. */
        private boolean admit(int move) {
            int rest = move;
            for (int level = 0; level < n; level++) {
                int point = Move.goal(row, level);
                int goal = Move.goal(rest, point);
                int place = place(level, goal);
                if (!has(reaches[level], goal)) {
                    reaches[level] |= 1 << goal;
                    addStep(place, rest, Move.undone(rest));
                    return true;
                }
                if (goal != point) {
                    rest = Move.both(rest, stepsUndone[place]);
                }
            }
            return false;
        }

        /** The steps make up a GROUP just when they make up each step, then each step. */
        private void close() {
            for (int late = 0; late < MOST_STEPS && late < knownSteps; late++) {
                for (int early = 0; early <= late; early++) {
                    admit(Move.both(known[late], known[early]));
                    admit(Move.both(known[early], known[late]));
                }
            }
        }

        private void addStep(int place, int move, int undone) {
            steps[place] = move;
            stepsUndone[place] = undone;
            if (knownSteps < MOST_STEPS) {
                known[knownSteps] = move;
                knownSteps++;
            }
        }

        private static int place(int level, int goal) {
            return level * Move.PLACES + goal;
        }

        private void measure() {
            sizes[n] = 1;
            for (int level = n - 1; level >= 0; level--) {
                sizes[level] = sizes[level + 1] * Integer.bitCount(reaches[level]);
            }
        }
    }

    /** Things that were found, in the sequence in which they were, each once; a mark, a bit, tells each one. */
    private static final class Finds {
        private static final int BITS = 32;

        private final int[] things;
        private final int[] marks;
        private int many = 0;

        Finds(int room) {
            int places = Math.max(room, 0);
            things = new int[places];
            marks = new int[places / BITS + 1];
        }

        void clear() {
            many = 0;
            Arrays.fill(marks, 0);
        }

        /** Whether the thing with that mark is a new one. */
        boolean add(int thing, int mark) {
            if (mark < 0 || mark >= things.length || many >= things.length) {
                return false;
            }
            int place = mark / BITS;
            int bit = mark % BITS;
            if (has(marks[place], bit)) {
                return false;
            }
            marks[place] |= 1 << bit;
            things[many] = thing;
            many++;
            return true;
        }

        boolean isMarked(int mark) {
            return mark >= 0 && mark < things.length && has(marks[mark / BITS], mark % BITS);
        }

        int thing(int index) {
            return index < 0 || index >= things.length ? 0 : things[index];
        }

        int length() {
            return many;
        }
    }

    /** All MOVES of the GROUP of a SET, one by one, found with no use of REACH. */
    private static final class Walk {
        private final Finds found = new Finds(MOST_MOVES);
        private int n = 0;

        void goThrough(int[] cells, int set, int points) {
            n = points;
            found.clear();
            found.add(Move.STILL, Move.numberOf(Move.STILL, n));
            int steps = 0;
            for (int cell = 0; cell < cells.length; cell++) {
                if (has(set, cell) && !found.isMarked(Move.numberOf(cells[cell], n))) {
                    steps |= 1 << cell;
                    spread(cells, steps);
                }
            }
        }

        int length() {
            return found.length();
        }

        boolean meets(int move) {
            for (int i = 0; i < found.length(); i++) {
                if (found.thing(i) == move) {
                    return true;
                }
            }
            return false;
        }

        int howManyOfOrder(int order) {
            int many = 0;
            for (int i = 0; i < found.length(); i++) {
                if (Move.orderOf(found.thing(i)) == order) {
                    many++;
                }
            }
            return many;
        }

        int howManyEven() {
            int many = 0;
            for (int i = 0; i < found.length(); i++) {
                if (Move.signOf(found.thing(i), n) == 1) {
                    many++;
                }
            }
            return many;
        }

        /** COLOURINGS up to the GROUP: the mean of how many each MOVE makes of themselves. */
        int colouringsByMean(int colours) {
            int sum = 0;
            for (int i = 0; i < found.length(); i++) {
                int same = 1;
                for (int left = Move.howManyRings(found.thing(i), n); left > 0; left--) {
                    same *= colours;
                }
                sum += same;
            }
            return quotient(sum, found.length());
        }

        private void spread(int[] cells, int steps) {
            for (int i = 0; i < MOST_MOVES && i < found.length(); i++) {
                for (int cell = 0; cell < cells.length; cell++) {
                    if (has(steps, cell)) {
                        int move = Move.both(found.thing(i), cells[cell]);
                        found.add(move, Move.numberOf(move, n));
                    }
                }
            }
        }
    }

    /** A parting of the POINTS: of each one the part that it is in, as a sum of 2^p. */
    private static final class Parting {
        private final int[] partOf = new int[Move.PLACES];
        private int n = 0;

        int partWith(int point) {
            return point < 0 || point >= n ? 0 : partOf[point];
        }

        int parts() {
            int many = 0;
            for (int p = 0; p < n; p++) {
                if (howManyBelow(partOf[p], p) == 0) {
                    many++;
                }
            }
            return many;
        }

        /** Those are together that can COME to each other. */
        void joinComing(int[] cells, int set, int points) {
            separate(points);
            for (int cell = 0; cell < cells.length; cell++) {
                for (int p = 0; p < n && has(set, cell); p++) {
                    join(p, Move.goal(cells[cell], p));
                }
            }
        }

        /** The BLOCKS of two POINTS: what each MOVE brings from one part to two parts is joined, till all stays. */
        void joinBlocks(int[] cells, int set, int one, int other, int points) {
            separate(points);
            boolean changed = join(one, other);
            for (int round = 0; round < MOST_POINTS && changed; round++) {
                changed = false;
                for (int cell = 0; cell < cells.length; cell++) {
                    if (has(set, cell) && joinMoved(cells[cell])) {
                        changed = true;
                    }
                }
            }
        }

        private void separate(int points) {
            n = points;
            for (int p = 0; p < Move.PLACES; p++) {
                partOf[p] = 1 << p;
            }
        }

        private boolean joinMoved(int move) {
            boolean changed = false;
            for (int p = 0; p < n; p++) {
                for (int q = 0; q < p; q++) {
                    if (has(partOf[p], q) && join(Move.goal(move, p), Move.goal(move, q))) {
                        changed = true;
                    }
                }
            }
            return changed;
        }

        private boolean join(int one, int other) {
            if (has(partOf[one], other)) {
                return false;
            }
            int joined = partOf[one] | partOf[other];
            for (int p = 0; p < Move.PLACES; p++) {
                if (has(joined, p)) {
                    partOf[p] = joined;
                }
            }
            return true;
        }
    }

    /** COLOURINGS, each told as the sum of its POINTS' colours, each times the weight of its POINT. */
    private static final class Palette {
        private final Finds found = new Finds(MOST_COLOURINGS);
        private final int[] weights = new int[Move.PLACES];
        private int colours = 1;
        private int n = 0;

        int colouringsOneByOne(int[] cells, int set, int many, int points) {
            colours = many;
            n = points;
            int all = weigh();
            int unlike = 0;
            found.clear();
            for (int colouring = 0; colouring < all; colouring++) {
                if (found.add(colouring, colouring)) {
                    unlike++;
                    spread(cells, set);
                }
            }
            return unlike;
        }

        /** Returns how many COLOURINGS there are. */
        private int weigh() {
            int weight = 1;
            for (int p = 0; p < n; p++) {
                weights[p] = weight;
                weight *= colours;
            }
            return weight;
        }

        /** All that come of the last one that was found. */
        private void spread(int[] cells, int set) {
            for (int i = found.length() - 1; i < MOST_COLOURINGS && i < found.length(); i++) {
                for (int cell = 0; cell < cells.length; cell++) {
                    if (has(set, cell)) {
                        int made = madeBy(cells[cell], found.thing(i));
                        found.add(made, made);
                    }
                }
            }
        }

        private int madeBy(int move, int colouring) {
            int result = 0;
            int rest = colouring;
            for (int p = 0; p < n; p++) {
                int less = quotient(rest, colours);
                result += (rest - less * colours) * weights[Move.goal(move, p)];
                rest = less;
            }
            return result;
        }
    }
}
