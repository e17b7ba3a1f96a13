import java.io.IOException;
import java.lang.reflect.Method;
import java.lang.reflect.Modifier;
import java.nio.file.Files;
import java.nio.file.Path;
import java.util.ArrayList;
import java.util.Arrays;
import java.util.HashSet;
import java.util.List;
import java.util.Set;
import java.util.regex.Matcher;
import java.util.regex.Pattern;
import java.util.stream.Stream;

/** The calls that README.md shows, each with the answer that README.md tells behind it. */
public final class ReadmeTest extends Checks {
    private static final Pattern MADE = Pattern.compile("Swaphouse house = new Swaphouse\\(\\);");
    private static final Pattern CALL = Pattern.compile("house\\.(\\w+)\\(((?:-?\\d+(?:, -?\\d+)*)?)\\); +// (.+)");
    /** A text in quotes, "throws" with an exception, or one word; then, perhaps, a colon or comma and more words. */
    private static final Pattern ANSWER = Pattern.compile("(\"[^\"]*\"|throws \\w+|-?\\w+)(?:[:,] .+)?");

    private final Set<String> shown = new HashSet<>();
    private Swaphouse house;
    private Reference reference;

    public static void main(String[] args) throws IOException {
        List<String> readme = Files.readAllLines(Path.of("README.md"));
        ReadmeTest test = new ReadmeTest();
        for (String line : codeOf(readme)) {
            test.read(line);
        }
        test.showsEachMethod();
        tellsHowToRunTheTests(String.join("\n", readme));
        finish("ReadmeTest");
    }

    private static List<String> codeOf(List<String> readme) {
        List<String> code = new ArrayList<>();
        boolean inside = false;
        for (String line : readme) {
            if (line.startsWith("```")) {
                inside = line.equals("```java");
            } else if (inside) {
                code.add(line);
            }
        }
        return code;
    }

    private void read(String line) {
        says(line);
        Matcher call = CALL.matcher(line);
        if (MADE.matcher(line).matches()) {
            house = new Swaphouse();
            reference = new Reference();
        } else if (call.matches()) {
            make(call.group(1), valuesOf(call.group(2)), call.group(3));
        } else {
            same("a line that is no call and no remark", line.isEmpty() || line.startsWith("// "), true);
        }
    }

    private void make(String name, int[] values, String remark) {
        Matcher due = ANSWER.matcher(remark);
        same("a remark that begins with an answer", due.matches(), true);
        shown.add(name);
        same(name, told(answer(house, name, values)), due.group(1));
        same(name + " by the reference", told(answer(reference, name, values)), due.group(1));
    }

    private static int[] valuesOf(String words) {
        return words.isEmpty() ? new int[0] : Arrays.stream(words.split(", ")).mapToInt(Integer::parseInt).toArray();
    }

    /** An answer in the way in which README.md tells it. */
    private static String told(Object answer) {
        if (answer instanceof Class) {
            return "throws " + ((Class<?>) answer).getSimpleName();
        }
        return answer instanceof String ? "\"" + answer + "\"" : String.valueOf(answer);
    }

    private void showsEachMethod() {
        says("a run of calls with the answers that the document asks for");
        for (Method method : Swaphouse.class.getDeclaredMethods()) {
            if (Modifier.isPublic(method.getModifiers())) {
                same("README.md shows " + method.getName(), shown.contains(method.getName()), true);
            }
        }
    }

    private static void tellsHowToRunTheTests(String readme) throws IOException {
        says("how to run its tests");
        same("README.md names the script", readme.contains("\n    .ci/run\n"), true);
        same("the script is there", Files.exists(Path.of(".ci/run")), true);
        try (Stream<Path> files = Files.list(Path.of("src/test/java"))) {
            files.map(file -> file.getFileName().toString().replace(".java", "")).sorted().forEach(
                    name -> same("README.md names " + name, readme.contains("`" + name + "`"), true));
        }
    }
}
