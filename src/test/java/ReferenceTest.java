import java.util.ArrayList;
import java.util.Arrays;
import java.util.List;
import java.util.Random;

/** Long runs of calls, right and wrong ones, each answer next to that of the slow Reference. */
public final class ReferenceTest extends Checks {
    private static final int CALLS = 512;
    private static final int RUNS_PER_POINTS = 12;

    /** Each method with the kind of each of its arguments; acts that make moves stand more than once. */
    private static final String[] FACE = {
        "points m", "lay c N", "lay c N", "exchange c p p", "exchange c p p", "ring c p p p", "ring c p p p",
        "turn c b", "mirror c", "copy c c", "swap c c", "then c c c", "then c c c", "undo c c", "power c t c",
        "power c t c", "rename c c c", "rename c c c", "match c c c", "match c c c", "nth s c r c", "nth s c r c",
        "count", "number c", "goes c p", "text c", "rings c", "ringText c p", "order c", "sign c", "stays c",
        "areAlike c c", "commute c c", "size s c", "reach s c p", "reach s c p", "isIn s c h", "rank s c c",
        "rank s c c", "list s f", "comes s p", "pieces s", "withOrder s o", "even s", "colourings s k h",
        "isPart s s", "shares s s", "share s c", "share s c", "together s p p", "together s p p", "blocks s p p",
        "isTwofold s", "enough s", "enough s", "house w", "knock", "isSound", "digest"};

    private final Random random;
    private final Swaphouse house = new Swaphouse();
    private final Reference reference = new Reference();
    private final List<String> calls = new ArrayList<>();

    private ReferenceTest(long seed) {
        random = new Random(seed);
    }

    public static void main(String[] args) {
        int runs = 0;
        for (int many = 2; many <= 7; many++) {
            for (int i = 0; i < RUNS_PER_POINTS; i++) {
                new ReferenceTest(1000L * many + i).run(many);
                runs++;
            }
        }
        System.out.println("ReferenceTest: " + runs + " runs of " + CALLS + " calls agree with the reference");
    }

    private void run(int many) {
        // A run in which few moves are laid has small groups, one with many has large ones.
        boolean tame = random.nextBoolean();
        call("points", new int[] {many});
        while (calls.size() < CALLS - 1) {
            String[] words = FACE[random.nextInt(FACE.length)].split(" ");
            boolean wild = words[0].equals("lay") && tame && random.nextInt(8) != 0;
            boolean resets = words[0].equals("points") && random.nextInt(8) != 0;
            if (!wild && !resets) {
                int[] values = new int[words.length - 1];
                for (int i = 0; i < values.length; i++) {
                    values[i] = argument(words[i + 1].charAt(0));
                }
                call(words[0], values);
            }
        }
        call("digest", new int[0]);
    }

    private int argument(char kind) {
        if (random.nextInt(40) == 0) {
            int[] odd = {-1, 6, 7, 8, 64, -100, -101, 101, 1001, -1001, 5040, Integer.MAX_VALUE, Integer.MIN_VALUE};
            return odd[random.nextInt(odd.length)];
        }
        int n = reference.count();
        switch (kind) {
            case 'm': return random.nextInt(8) == 0 ? 7 : 2 + random.nextInt(6);
            case 'c': return random.nextInt(6);
            case 'p': return random.nextInt(30) == 0 ? n : random.nextInt(n);
            case 's': return random.nextInt(4) == 0 ? random.nextInt(64) : 1 << random.nextInt(6) | 1 << random.nextInt(6);
            case 'N': return random.nextInt(factorial(n));
            case 'b': return random.nextInt(201) - 100;
            case 't': return random.nextInt(3) == 0 ? random.nextInt(2001) - 1000 : random.nextInt(13) - 6;
            case 'r': return random.nextInt(2) == 0 ? random.nextInt(4) : random.nextInt(factorial(n));
            case 'h': return random.nextInt(2);
            case 'o': return 1 + random.nextInt(12);
            case 'k': return 1 + random.nextInt(3);
            case 'f': return random.nextInt(2) == 0 ? random.nextInt(30) : random.nextInt(factorial(n));
            case 'w': return random.nextInt(3);
            default: throw new AssertionError("no such kind");
        }
    }

    private void call(String name, int[] values) {
        String call = name + Arrays.toString(values);
        calls.add(call);
        Object got = answer(house, name, values);
        Object want = answer(reference, name, values);
        if (!want.equals(got)) {
            calls.forEach(System.out::println);
            System.out.println(call + " answered " + got + ", due is " + want);
            System.exit(1);
        }
    }
}
