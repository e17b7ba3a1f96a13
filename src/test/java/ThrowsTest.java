import java.util.TreeSet;

/**
 * Each "Throws" row of the document by itself, argument by argument, with 2 to 7 points: the values next to its
 * bounds on both sides, and the least and the greatest int, with all other arguments as they should be.
 */
public final class ThrowsTest extends Checks {
    private static int n;
    private static String method;
    private static int[] fitting;

    public static void main(String[] args) {
        for (n = 2; n <= 7; n++) {
            movesMade();
            movesAsked();
            groupsAsked();
            moreOfGroups();
        }
        finish("ThrowsTest");
    }

    private static void movesMade() {
        of(2, "points", n).argument(0, 2, 7, "many is not 2 to 7");
        of(3, "lay", 0, 1).cell(0).argument(1, 0, factorial(n) - 1, "number is not 0 to N! - 1");
        of(4, "exchange", 0, 0, 1).cell(0).point(1).point(2);
        of(5, "ring", 0, 0, 1, n - 1).cell(0).point(1).point(2).point(3);
        of(6, "turn", 0, 1).cell(0).argument(1, -100, 100, "by is not -100 to 100");
        of(7, "mirror", 0).cell(0);
        of(8, "copy", 0, 1).cell(0).cell(1);
        of(9, "swap", 0, 1).cell(0).cell(1);
        of(10, "then", 0, 1, 2).cell(0).cell(1).cell(2);
        of(11, "undo", 0, 1).cell(0).cell(1);
        of(12, "power", 0, 2, 1).cell(0).cell(2).argument(1, -1000, 1000, "times is not -1000 to 1000");
        of(13, "rename", 0, 1, 2).cell(0).cell(1).cell(2);
        of(14, "match", 0, 0, 2).cell(0).cell(1).cell(2);
        of(15, "nth", 3, 0, 1, 2).cell(1).cell(3).set(0).argument(2, 0, GREATEST, "rank is below 0");
    }

    private static void movesAsked() {
        of(17, "number", 0).cell(0);
        of(18, "goes", 0, 1).cell(0).point(1);
        of(19, "text", 0).cell(0);
        of(20, "rings", 0).cell(0);
        of(21, "ringText", 0, 1).cell(0).point(1);
        of(22, "order", 0).cell(0);
        of(23, "sign", 0).cell(0);
        of(24, "stays", 0).cell(0);
        of(25, "areAlike", 0, 1).cell(0).cell(1);
        of(26, "commute", 0, 1).cell(0).cell(1);
    }

    private static void groupsAsked() {
        of(27, "size", 3, 0).cell(1).set(0);
        of(28, "reach", 3, 0, 1).cell(1).point(2).set(0);
        of(29, "isIn", 3, 0, 0).cell(1).set(0).argument(2, 0, 1, "how is not 0 or 1");
        of(29, "isIn", 3, 0, 1).cell(1).set(0);
        of(30, "rank", 3, 0, 1).cell(1).cell(2).set(0);
        of(31, "list", 3, 1).set(0).argument(1, 0, GREATEST, "from is below 0");
        of(32, "comes", 3, 1).point(1).set(0);
        of(33, "pieces", 3).set(0);
        of(34, "withOrder", 3, 2).set(0).argument(1, 1, 12, "order is not 1 to 12");
        of(35, "even", 3).set(0);
        of(36, "colourings", 3, 2, 0).set(0).argument(1, 1, 3, "colours is not 1 to 3");
        of(36, "colourings", 3, 2, 1).set(0).argument(1, 1, 3, "colours is not 1 to 3");
        of(36, "colourings", 3, 2, 1).argument(2, 0, 1, "how is not 0 or 1");
    }

    private static void moreOfGroups() {
        of(37, "isPart", 1, 3).set(0).set(1);
        of(38, "shares", 1, 3).set(0).set(1);
        of(38, "shares", 3, 0).set(0).set(1);
        of(39, "share", 1, 1).cell(1).set(0);
        of(40, "together", 3, 0, 1).point(1).point(2).set(0);
        of(41, "blocks", 3, 0, 1).point(1).point(2).set(0);
        of(42, "isTwofold", 3).set(0);
        of(43, "enough", 3).set(0);
        of(44, "house", 1).argument(0, 0, 2, "what is not 0 to 2");
    }

    // One row

    private static ThrowsTest of(int number, String name, int... values) {
        promise = number;
        method = name;
        fitting = values;
        return new ThrowsTest();
    }

    private ThrowsTest cell(int index) {
        return row(INDEX, index, 0, 5, "cell is not 0 to 5");
    }

    private ThrowsTest point(int index) {
        return row(INDEX, index, 0, n - 1, "point is not 0 to N - 1");
    }

    private ThrowsTest set(int index) {
        return row(ARGUMENT, index, 0, 63, "set is not 0 to 63");
    }

    private ThrowsTest argument(int index, int least, int most, String words) {
        return row(ARGUMENT, index, least, most, words);
    }

    private ThrowsTest row(Class<?> want, int index, int least, int most, String words) {
        says("Throws " + want.getSimpleName() + " if " + words + ", here argument " + index + " of " + n + " points");
        TreeSet<Integer> values = new TreeSet<>();
        for (long edge : new long[] {LEAST, least, most, GREATEST}) {
            for (long value = edge - 2; value <= edge + 2; value++) {
                if (value >= LEAST && value <= GREATEST) {
                    values.add((int) value);
                }
            }
        }
        for (int value : values) {
            one(value >= least && value <= most, want, index, value);
        }
        return this;
    }

    private static void one(boolean fits, Class<?> want, int index, int value) {
        int[] arguments = fitting.clone();
        arguments[index] = value;
        Swaphouse x = allMoves(n);
        String texts = texts(x);
        Object got = answer(x, method, arguments);
        if (fits) {
            same(method + " with " + value + " throws it", got.equals(want), false);
            // Two of a ring's points may be the same then, which is another row.
            same(method + " with " + value + " throws", got instanceof Class && !method.equals("ring"), false);
            return;
        }
        same(method + " with " + value, got, want);
        same("count", x.count(), n);
        same("texts", texts(x), texts);
        same("house", house(x), "3 0 0");
    }
}
