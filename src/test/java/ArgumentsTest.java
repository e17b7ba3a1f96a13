import java.util.Arrays;
import java.util.TreeSet;

/**
 * Each method with all edges of all its arguments at once: on both sides of each bound that a "Throws" row names,
 * and the least and the greatest int. What throws, what goes first and what is counted is told here; what is
 * answered otherwise, and what the object is then, is that of the slow Reference.
 */
public final class ArgumentsTest extends Checks {
    private static final int MOST_CALLS = 512;
    private static final int CALLS_OF_A_LOOK = 10;

    /** Each ACT with the kind of each of its arguments. */
    private static final String[] ACTS = {"points m", "lay c N", "exchange c p p", "ring c p p p", "turn c b",
        "mirror c", "copy c c", "swap c c", "then c c c", "undo c c", "power c t c", "rename c c c", "match c c c",
        "nth s c r c"};

    /** Each method that changes nothing, so too. */
    private static final String[] QUESTIONS = {"count", "number c", "goes c p", "text c", "rings c", "ringText c p",
        "order c", "sign c", "stays c", "areAlike c c", "commute c c", "size s c", "reach s c p", "isIn s c h",
        "rank s c c", "list s r", "comes s p", "pieces s", "withOrder s o", "even s", "colourings s k h",
        "isPart s s", "shares s s", "share s c", "together s p p", "blocks s p p", "isTwofold s", "enough s",
        "house w", "isSound", "digest"};

    /** Runs of calls that objects start with. */
    private static final String[][] SCENES = {
        {},
        {"turn 0 1", "mirror 1", "ring 2 0 1 2", "lay 4 1", "lay 5 22", "knock"},
        {"points 2", "mirror 0", "mirror 5"},
        {"points 3", "turn 5 1", "nth 0 0 1 0", "exchange 0 1 2", "knock", "knock"},
        {"points 5", "turn 0 1", "lay 1 42", "mirror 4", "turn 5 2"},
        {"points 6", "turn 1 1", "exchange 5 0 1", "lay 0 399", "mirror 4"},
        {"points 7", "turn 0 1", "mirror 1", "turn 4 3", "exchange 5 6 0", "knock", "match 0 1 2"}};

    private final String[] scene;
    private Swaphouse house;
    private Reference reference;
    private int calls;

    private ArgumentsTest(String[] scene) {
        this.scene = scene;
        start();
    }

    public static void main(String[] args) {
        for (String[] scene : SCENES) {
            says(Arrays.toString(scene));
            ArgumentsTest test = new ArgumentsTest(scene);
            for (String act : ACTS) {
                test.tryAll(act.split(" "), true);
            }
            for (String question : QUESTIONS) {
                test.tryAll(question.split(" "), false);
            }
        }
        finish("ArgumentsTest");
    }

    private void start() {
        house = new Swaphouse();
        reference = new Reference();
        calls = scene.length;
        for (String call : scene) {
            String[] words = call.split(" ");
            int[] values = new int[words.length - 1];
            for (int i = 0; i < values.length; i++) {
                values[i] = Integer.parseInt(words[i + 1]);
            }
            answer(house, words[0], values);
            answer(reference, words[0], values);
        }
    }

    private void tryAll(String[] words, boolean isAct) {
        tryFrom(words, new int[words.length - 1], 0, isAct);
    }

    private void tryFrom(String[] words, int[] values, int index, boolean isAct) {
        if (index == values.length) {
            tryOne(words, values, isAct);
            return;
        }
        for (int value : edges(words[index + 1].charAt(0))) {
            values[index] = value;
            tryFrom(words, values, index + 1, isAct);
        }
    }

    private void tryOne(String[] words, int[] values, boolean isAct) {
        if (calls + CALLS_OF_A_LOOK + 1 > MOST_CALLS) {
            start();
        }
        String call = words[0] + Arrays.toString(values);
        Object due = exceptionOf(words, values);
        String before = look(reference);
        Object got = answer(house, words[0], values);
        Object want = answer(reference, words[0], values);
        same(call, got, due == null ? want : due);
        String behind = look(house);
        calls += CALLS_OF_A_LOOK + 1;
        same("all of it behind " + call, behind, due == null ? look(reference) : before);
        String count = due != null || !isAct ? before : counted(got, before);
        same("what is counted behind " + call, counts(behind), counts(count));
        if (isAct && due == null) {
            start();
        }
    }

    /** An ACT that told -9 is counted as that, and any other one that threw nothing as done. */
    private static String counted(Object got, String look) {
        String[] words = look.split(", ");
        int which = got.equals(-9) ? 1 : 0;
        words[which] = Integer.toString(Integer.parseInt(words[which]) + 1);
        return String.join(", ", words);
    }

    private static String counts(String look) {
        return String.join(", ", Arrays.copyOf(look.split(", "), 3));
    }

    private static String look(Object target) {
        StringBuilder words = new StringBuilder();
        for (int what = 0; what < 3; what++) {
            words.append(answer(target, "house", what)).append(", ");
        }
        words.append(answer(target, "count"));
        for (int cell = 0; cell < 6; cell++) {
            words.append(", ").append(answer(target, "text", cell));
        }
        return words.toString();
    }

    /** The exception that the "Throws" rows ask for, the one that is named first; null if none. */
    private Class<?> exceptionOf(String[] words, int[] values) {
        Class<?> due = null;
        for (int i = 0; i < values.length; i++) {
            char kind = words[i + 1].charAt(0);
            if (values[i] < least(kind) || values[i] > most(kind)) {
                due = kind == 'c' || kind == 'p' || due == INDEX ? INDEX : ARGUMENT;
            }
        }
        boolean twoAreTheSame = words[0].equals("ring")
                && (values[1] == values[2] || values[1] == values[3] || values[2] == values[3]);
        return due == null && twoAreTheSame ? ARGUMENT : due;
    }

    private static int least(char kind) {
        switch (kind) {
            case 'm': return 2;
            case 'b': return -100;
            case 't': return -1000;
            case 'o':
            case 'k': return 1;
            default: return 0;
        }
    }

    private int most(char kind) {
        switch (kind) {
            case 'c': return 5;
            case 'p': return reference.count() - 1;
            case 's': return 63;
            case 'm': return 7;
            case 'N': return factorial(reference.count()) - 1;
            case 'b': return 100;
            case 't': return 1000;
            case 'r': return GREATEST;
            case 'h': return 1;
            case 'o': return 12;
            case 'k': return 3;
            case 'w': return 2;
            default: throw new AssertionError("no such kind");
        }
    }

    private TreeSet<Integer> edges(char kind) {
        TreeSet<Integer> values = new TreeSet<>();
        for (long edge : new long[] {LEAST, least(kind), most(kind), GREATEST}) {
            for (long value = edge - 1; value <= edge + 1; value++) {
                if (value >= LEAST && value <= GREATEST) {
                    values.add((int) value);
                }
            }
        }
        if (kind == 'r') {
            int size = reference.size(63, 0);
            values.addAll(Arrays.asList(size - 1, size, size + 1));
        }
        return values;
    }
}
