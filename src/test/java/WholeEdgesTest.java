import java.math.BigInteger;
import java.util.ArrayList;
import java.util.List;

/** The document's sentences on the whole that name a boundary case: the 512 calls, and the promises 44 to 47. */
public final class WholeEdgesTest extends Checks {
    private static final int MOST_CALLS = 512;

    public static void main(String[] args) {
        lastCalls();
        lastCallOfAll();
        house();
        knock();
        isSound();
        digestOfTheFewestPoints();
        digestOfTheMostPoints();
        digestInThisOrder();
        digestWrapsAround();
        finish("WholeEdgesTest");
    }

    private static void lastCalls() {
        says(44, "An object is used for at most 512 calls after it has been made");
        Swaphouse done = new Swaphouse();
        Swaphouse refused = new Swaphouse();
        Swaphouse knocked = new Swaphouse();
        for (int i = 1; i < MOST_CALLS; i++) {
            done.turn(0, 1);
            refused.nth(63, 0, 1, 0);
            same("knock", knocked.knock(), i);
        }
        same("house behind 511 acts", done.house(0), MOST_CALLS - 1);
        same("house behind 511 times -9", refused.house(1), MOST_CALLS - 1);
        same("house behind 511 knocks", knocked.house(2), MOST_CALLS - 1);
    }

    private static void lastCallOfAll() {
        says(47, "An object is used for at most 512 calls after it has been made");
        Swaphouse x = allMoves(7);
        int size = 5040;
        for (int i = 3; i < MOST_CALLS - 2; i++) {
            same("nth", x.nth(3, 5, size - i, 2), size - i);
        }
        same("text at the 511th call", x.text(2), "6 1 4 5 0 3 2");
        same("isSound at the 512th call", x.isSound(), true);
    }

    private static void house() {
        says(44, "0 how many ACTS were done, 1 how often an ACT told -9, 2 how often one knocked");
        Swaphouse x = square();
        same("house", house(x), "2 0 0");
        x.match(0, 1, 2);
        x.knock();
        x.knock();
        x.turn(0, 0);
        same("house", house(x), "3 1 2");
        x.points(4);
        same("house behind points()", house(x), "4 1 2");
        says(44, "Throws IllegalArgumentException if what is not 0 to 2");
        refusesEach(x, ARGUMENT, new int[] {LEAST, -2, -1, 3, 4, GREATEST}, x::house);
        same("house", house(x), "4 1 2");
    }

    private static void knock() {
        says(45, "Returns how often one knocked, with this");
        Swaphouse x = square();
        String before = texts(x);
        for (int i = 1; i <= 20; i++) {
            same("knock", x.knock(), i);
            same("house", house(x), "2 0 " + i);
        }
        same("texts", texts(x), before);
        same("count", x.count(), 4);
        same("knock at another object", new Swaphouse().knock(), 1);
    }

    private static void isSound() {
        says(46, "It is always true");
        for (int many = 2; many <= 7; many++) {
            Swaphouse x = withPoints(many);
            same("isSound of what is still", x.isSound(), true);
            x.mirror(5);
            same("isSound of the last cell alone", x.isSound(), true);
            x.turn(0, 1);
            same("isSound", x.isSound(), true);
            x.exchange(3, 0, 1);
            same("isSound of all moves", x.isSound(), true);
            x.nth(63, 0, 1, 0);
            same("isSound by another row", x.isSound(), true);
            same("house", house(x), "5 0 0");
        }
        same("isSound with each cell taken", stairs().isSound(), true);
    }

    // digest()

    private static void digestOfTheFewestPoints() {
        says(47, "A number d starts with 8030; then d becomes d * 31 + v: with two POINTS");
        List<Integer> values = new ArrayList<>(List.of(2));
        for (int cell = 0; cell < 6; cell++) {
            values.addAll(List.of(0, 1, 1, 3, 3));
        }
        values.addAll(List.of(1, 2, 1, 0, 1, 2, 1, 0, 0, 1));
        same("digest", withPoints(2).digest(), wrapped(values));
    }

    private static void digestOfTheMostPoints() {
        says(47, "A number d starts with 8030; then d becomes d * 31 + v: with seven POINTS");
        List<Integer> values = new ArrayList<>(List.of(7, 873, 7, 1, 0, 1, 720, 2, -1, 124, 11));
        for (int cell = 2; cell < 6; cell++) {
            values.addAll(List.of(0, 1, 1, 127, 13));
        }
        values.addAll(List.of(5040, 1, 2520, 3, 127, 125, 121, 113, 97, 65, 1, 3, 1, 2, 1));
        Swaphouse x = allMoves(7);
        x.knock();
        x.knock();
        x.match(0, 1, 2);
        same("digest", x.digest(), wrapped(values));
    }

    private static void digestInThisOrder() {
        says(47, "for each v in this order");
        for (int many = 2; many <= 7; many++) {
            Swaphouse x = withPoints(many);
            for (int cell = 0; cell < 6; cell++) {
                x.lay(cell, (cell + 1) * 271 % factorial(many));
                same("digest", x.digest(), wrapped(valuesOf(x)));
            }
            x.knock();
            same("digest behind a knock", x.digest(), wrapped(valuesOf(x)));
            x.nth(63, 0, GREATEST, 0);
            same("digest behind a -9", x.digest(), wrapped(valuesOf(x)));
        }
    }

    private static void digestWrapsAround() {
        says(47, "which wraps around as a 64-bit integer");
        boolean below = false;
        boolean above = false;
        for (int many = 2; many <= 7; many++) {
            Swaphouse x = allMoves(many);
            for (int i = 0; i < 4; i++) {
                x.knock();
                same("whether it does not fit", unbounded(valuesOf(x)).bitLength() > 64, true);
                same("digest", x.digest(), wrapped(valuesOf(x)));
                below |= x.digest() < 0;
                above |= x.digest() > 0;
            }
        }
        same("whether one was below 0", below, true);
        same("whether one was above 0", above, true);
    }

    private static List<Integer> valuesOf(Swaphouse x) {
        List<Integer> values = new ArrayList<>();
        values.add(x.count());
        for (int cell = 0; cell < 6; cell++) {
            values.addAll(List.of(x.number(cell), x.order(cell), x.sign(cell), x.stays(cell), x.rings(cell).length()));
        }
        values.addAll(List.of(x.size(63, 0), x.pieces(63), x.even(63), x.enough(63)));
        for (int level = 0; level < x.count(); level++) {
            values.add(x.reach(63, 0, level));
        }
        values.addAll(List.of(x.house(0), x.house(1), x.house(2), x.isSound() ? 1 : 0));
        return values;
    }

    private static BigInteger unbounded(List<Integer> values) {
        BigInteger d = BigInteger.valueOf(8030);
        for (int value : values) {
            d = d.multiply(BigInteger.valueOf(31)).add(BigInteger.valueOf(value));
        }
        return d;
    }

    private static long wrapped(List<Integer> values) {
        BigInteger left = unbounded(values).mod(BigInteger.ONE.shiftLeft(64));
        return left.testBit(63) ? left.subtract(BigInteger.ONE.shiftLeft(64)).longValueExact() : left.longValueExact();
    }
}
