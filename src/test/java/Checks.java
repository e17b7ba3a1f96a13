import java.lang.reflect.InvocationTargetException;
import java.lang.reflect.Method;
import java.util.Arrays;

/** What the tests share: answers held against those that are due, and calls that must throw. */
abstract class Checks {
    static final Class<? extends RuntimeException> INDEX = IndexOutOfBoundsException.class;
    static final Class<? extends RuntimeException> ARGUMENT = IllegalArgumentException.class;
    static final int LEAST = Integer.MIN_VALUE;
    static final int GREATEST = Integer.MAX_VALUE;
    static final int[] NO_CELLS = {-1, 6, LEAST, GREATEST};
    static final int[] NO_SETS = {-1, 64, LEAST, GREATEST};

    static int promise = 0;

    private static String sentence = "";
    private static int asked = 0;
    private static int wrong = 0;

    interface Call {
        void make();
    }

    interface CallWith {
        void make(int value);
    }

    /** What the document says of what is asked from here on: a wrong answer is told with it. */
    static void says(String words) {
        sentence = " (" + words + ")";
    }

    static void says(int number, String words) {
        promise = number;
        says(words);
    }

    static void same(String what, Object got, Object want) {
        asked++;
        if (!want.equals(got)) {
            wrong++;
            System.out.println("promise " + promise + sentence + ": " + what + " answered " + got + ", due is " + want);
        }
    }

    static void finish(String name) {
        System.out.println(name + ": " + asked + " answers, " + wrong + " of them wrong");
        if (wrong != 0) {
            System.exit(1);
        }
    }

    // Calls that throw, calls that change nothing

    /** The call throws that exception, and all stays as it was. */
    static void refuses(Swaphouse x, Class<? extends RuntimeException> want, Call call) {
        long before = x.digest();
        Object got = "nothing";
        try {
            call.make();
        } catch (RuntimeException e) {
            got = e.getClass();
        }
        same("exception", got, want);
        same("digest behind an exception", x.digest(), before);
    }

    static void refusesEach(Swaphouse x, Class<? extends RuntimeException> want, int[] values, CallWith call) {
        for (int value : values) {
            refuses(x, want, () -> call.make(value));
        }
    }

    static void refusesCells(Swaphouse x, CallWith call) {
        refusesEach(x, INDEX, NO_CELLS, call);
    }

    static void refusesSets(Swaphouse x, CallWith call) {
        refusesEach(x, ARGUMENT, NO_SETS, call);
    }

    static void refusesPoints(Swaphouse x, CallWith call) {
        refusesEach(x, INDEX, new int[] {-1, x.count(), 7, LEAST, GREATEST}, call);
    }

    /** The call is no ACT: nothing of what it could change is another one behind it. */
    static void changesNothing(Swaphouse x, Call call) {
        long before = x.digest();
        call.make();
        same("digest behind a question", x.digest(), before);
    }

    // What all of the object is

    static String house(Swaphouse x) {
        return x.house(0) + " " + x.house(1) + " " + x.house(2);
    }

    static String texts(Swaphouse x) {
        StringBuilder words = new StringBuilder();
        for (int cell = 0; cell < 6; cell++) {
            words.append(cell == 0 ? "" : ", ").append(x.text(cell));
        }
        return words.toString();
    }

    // Calls by name

    /** What the method of that name answers, or the class of the exception that it throws. */
    static Object answer(Object target, String name, int... values) {
        Class<?>[] kinds = new Class<?>[values.length];
        Arrays.fill(kinds, int.class);
        try {
            Method method = target.getClass().getDeclaredMethod(name, kinds);
            method.setAccessible(true);
            return method.invoke(target, Arrays.stream(values).boxed().toArray());
        } catch (InvocationTargetException e) {
            if (e.getCause() instanceof Error) {
                throw (Error) e.getCause();
            }
            return e.getCause().getClass();
        } catch (ReflectiveOperationException e) {
            throw new AssertionError(e);
        }
    }

    // Objects

    static Swaphouse withPoints(int many) {
        Swaphouse x = new Swaphouse();
        x.points(many);
        return x;
    }

    /** Four points: cell 0 turned by one, cell 1 mirrored: together the eight moves of a square. */
    static Swaphouse square() {
        Swaphouse x = new Swaphouse();
        x.turn(0, 1);
        x.mirror(1);
        return x;
    }

    /** Six points, turned and mirrored: the twelve moves of a hexagon. */
    static Swaphouse hexagon() {
        Swaphouse x = withPoints(6);
        x.turn(0, 1);
        x.mirror(1);
        return x;
    }

    /** So many points: cell 0 turned by one, cell 1 an exchange: together all moves. */
    static Swaphouse allMoves(int many) {
        Swaphouse x = withPoints(many);
        x.turn(0, 1);
        x.exchange(1, 0, 1);
        return x;
    }

    /** Seven points: each cell k exchanges k and k + 1, so that each SET has a GROUP of its own. */
    static Swaphouse stairs() {
        Swaphouse x = withPoints(7);
        for (int cell = 0; cell < 6; cell++) {
            x.exchange(cell, cell, cell + 1);
        }
        return x;
    }

    static int factorial(int many) {
        return many < 2 ? 1 : many * factorial(many - 1);
    }
}
