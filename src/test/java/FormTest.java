import java.io.IOException;
import java.lang.reflect.Field;
import java.lang.reflect.Method;
import java.lang.reflect.Modifier;
import java.nio.file.Files;
import java.nio.file.Path;
import java.util.ArrayList;
import java.util.Arrays;
import java.util.List;
import java.util.Set;
import java.util.regex.Matcher;
import java.util.regex.Pattern;
import java.util.stream.Collectors;

/** What can be seen of LANGUAGE.md's rules in the text and the members of the class; FaceTest has rule 1. */
public final class FormTest extends Checks {
    /** The library that the class uses; who needs more of what rule 4 leaves, adds it here. */
    private static final Set<String> LIBRARY = Set.of("String", "StringBuilder", "Arrays.fill", "Integer.bitCount",
            "Math.abs", "Math.max", "Math.floorMod", "IllegalArgumentException", "IndexOutOfBoundsException");
    private static final String TEXT = "\"[^\"\\n]*\"";
    private static final String COMMENT = "(?s:/\\*.*?\\*/)|//[^\\n]*";
    private static final int MOST_LINES = 60;
    private static final int MOST_ARGUMENTS = 7;
    private static final int MOST_CLASSES = 12;
    private static final int MOST_FIELDS = 20;

    private static final List<Class<?>> CLASSES = new ArrayList<>();

    public static void main(String[] args) throws IOException {
        String source = Files.readString(Path.of("src/main/java/Swaphouse.java"));
        String code = source.replaceAll(COMMENT, "").replaceAll(TEXT, "\"\"");
        CLASSES.add(Swaphouse.class);
        CLASSES.addAll(Arrays.asList(Swaphouse.class.getDeclaredClasses()));
        hasPlainSigns(source);
        leavesOut(code);
        usesTheLibraryThatIsLeft(code);
        hasConstantsAlone();
        throwsAsIsLeft(source);
        staysSmall(source);
        finish("FormTest");
    }

    private static void hasPlainSigns(String source) {
        says("the class can be compiled in each locale; rule 4: constants, whose signs are 1 to 127");
        same("signs that are not 1 to 127", source.chars().filter(sign -> sign < 1 || sign > 127).count(), 0L);
    }

    private static void leavesOut(String code) {
        hasNone(code, "rule 2: no lambda, no method reference", "->|::");
        hasNone(code, "rule 3: arrays of one dimension, and of two of numbers", "\\[\\w*\\]\\[\\w*\\]\\[");
        hasNone(code, "rule 5: no static initialiser block", "static\\s*\\{");
        hasNone(code, "rule 6: no finally, no synchronized, no assert", "\\b(finally|synchronized|assert)\\b");
        hasNone(code, "the machine's exceptions are not caught: nothing is", "\\b(try|catch)\\b");
        hasNone(code, "rule 6: no equals, hashCode or toString of your own", " (equals|hashCode|toString)\\(");
        hasNone(code, "rule 10: joining texts by StringBuilder (not by +)", "\"\\s*\\+|\\+\\s*\"");
    }

    private static void hasNone(String code, String rule, String pattern) {
        says(rule);
        Matcher matcher = Pattern.compile(pattern).matcher(code);
        same("what is in the class", matcher.find() ? matcher.group() : "nothing", "nothing");
    }

    private static void usesTheLibraryThatIsLeft(String code) {
        says("rule 4: only what stands here");
        String body = code.replaceAll("import.*", "");
        Matcher words = Pattern.compile("\\b[A-Z][a-z]\\w*(\\.[a-z]\\w*(?=\\())?").matcher(body);
        while (words.find()) {
            String word = words.group();
            same(word + " may be used", isOwn(word.replaceAll("\\..*", "")) || LIBRARY.contains(word), true);
        }
        Matcher imports = Pattern.compile("import (.*);").matcher(code);
        while (imports.find()) {
            same("imported", imports.group(1), "java.util.Arrays");
        }
    }

    private static boolean isOwn(String name) {
        return CLASSES.stream().anyMatch(own -> own.getSimpleName().equals(name));
    }

    private static void hasConstantsAlone() {
        says("rule 5: static fields are final, and constants");
        Set<Class<?>> kinds = Set.of(int.class, long.class, boolean.class, char.class, String.class);
        for (Class<?> own : CLASSES) {
            for (Field field : own.getDeclaredFields()) {
                if (Modifier.isStatic(field.getModifiers())) {
                    same(field + " is final", Modifier.isFinal(field.getModifiers()), true);
                    same(field + " is a constant", kinds.contains(field.getType()), true);
                }
            }
        }
    }

    private static void throwsAsIsLeft(String source) {
        says("rule 6: throw new E(\"a written text\")");
        Matcher matcher = Pattern.compile("(?m)^ *throw .*$").matcher(source);
        int many = 0;
        while (matcher.find()) {
            String form = "throw new (IndexOutOfBounds|IllegalArgument)Exception\\(" + TEXT + "\\);";
            same(matcher.group(), matcher.group().strip().matches(form), true);
            many++;
        }
        same("throws: of a cell, a point, and all else", many, 3);
    }

    private static void staysSmall(String source) {
        says("rule 11: at most seven parameters, some sixty lines, some twelve classes, some twenty fields");
        same("classes are few", CLASSES.size() <= MOST_CLASSES, true);
        for (Class<?> own : CLASSES) {
            long fields = Arrays.stream(own.getDeclaredFields())
                    .filter(field -> !Modifier.isStatic(field.getModifiers())).count();
            same(own + " has few fields", fields <= MOST_FIELDS, true);
            for (Method method : own.getDeclaredMethods()) {
                same(method + " has few arguments", method.getParameterCount() <= MOST_ARGUMENTS, true);
            }
        }
        hasShortBlocks(source.lines().collect(Collectors.toList()));
    }

    /** A method ends at the first line that holds nothing but a brace, as far in as its head. */
    private static void hasShortBlocks(List<String> lines) {
        int many = 0;
        for (int i = 0; i < lines.size(); i++) {
            String line = lines.get(i);
            if (line.endsWith("{") && !line.contains(" class ")) {
                String head = line.strip().startsWith("throws ") && i > 0 ? lines.get(i - 1) : line;
                String end = head.replaceAll("\\S.*", "}");
                int length = lines.subList(i, lines.size()).indexOf(end);
                same("short is: " + line, length > 0 && length <= MOST_LINES, true);
                many++;
            }
        }
        same("methods were found", many > 100, true);
    }
}
