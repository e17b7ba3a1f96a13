import java.lang.reflect.Constructor;
import java.lang.reflect.Field;
import java.lang.reflect.Method;
import java.lang.reflect.Modifier;
import java.util.Arrays;
import java.util.List;
import java.util.Set;
import java.util.TreeSet;
import java.util.stream.Collectors;
import java.util.stream.Stream;

/** The class has the face that the document gives it, word by word, and no other (LANGUAGE.md, rule 1). */
public final class FaceTest extends Checks {
    /** The document's rows below "public Swaphouse();". */
    private static final String FACE = """
        public int points(int many) throws IllegalArgumentException;
        public int lay(int cell, int number) throws IndexOutOfBoundsException, IllegalArgumentException;
        public int exchange(int cell, int one, int other) throws IndexOutOfBoundsException;
        public int ring(int cell, int one, int other, int third) throws IndexOutOfBoundsException, IllegalArgumentException;
        public int turn(int cell, int by) throws IndexOutOfBoundsException, IllegalArgumentException;
        public int mirror(int cell) throws IndexOutOfBoundsException;
        public int copy(int cell, int into) throws IndexOutOfBoundsException;
        public int swap(int one, int other) throws IndexOutOfBoundsException;
        public int then(int one, int other, int into) throws IndexOutOfBoundsException;
        public int undo(int cell, int into) throws IndexOutOfBoundsException;
        public int power(int cell, int times, int into) throws IndexOutOfBoundsException, IllegalArgumentException;
        public int rename(int cell, int by, int into) throws IndexOutOfBoundsException;
        public int match(int one, int other, int into) throws IndexOutOfBoundsException;
        public int nth(int set, int row, int rank, int into) throws IndexOutOfBoundsException, IllegalArgumentException;
        public int count();
        public int number(int cell) throws IndexOutOfBoundsException;
        public int goes(int cell, int point) throws IndexOutOfBoundsException;
        public String text(int cell) throws IndexOutOfBoundsException;
        public String rings(int cell) throws IndexOutOfBoundsException;
        public String ringText(int cell, int point) throws IndexOutOfBoundsException;
        public int order(int cell) throws IndexOutOfBoundsException;
        public int sign(int cell) throws IndexOutOfBoundsException;
        public int stays(int cell) throws IndexOutOfBoundsException;
        public boolean areAlike(int one, int other) throws IndexOutOfBoundsException;
        public boolean commute(int one, int other) throws IndexOutOfBoundsException;
        public int size(int set, int row) throws IndexOutOfBoundsException, IllegalArgumentException;
        public int reach(int set, int row, int level) throws IndexOutOfBoundsException, IllegalArgumentException;
        public boolean isIn(int set, int cell, int how) throws IndexOutOfBoundsException, IllegalArgumentException;
        public int rank(int set, int row, int cell) throws IndexOutOfBoundsException, IllegalArgumentException;
        public String list(int set, int from) throws IllegalArgumentException;
        public int comes(int set, int point) throws IndexOutOfBoundsException, IllegalArgumentException;
        public int pieces(int set) throws IllegalArgumentException;
        public int withOrder(int set, int order) throws IllegalArgumentException;
        public int even(int set) throws IllegalArgumentException;
        public int colourings(int set, int colours, int how) throws IllegalArgumentException;
        public boolean isPart(int set, int whole) throws IllegalArgumentException;
        public int shares(int set, int whole) throws IllegalArgumentException;
        public int share(int set, int cell) throws IndexOutOfBoundsException, IllegalArgumentException;
        public int together(int set, int one, int other) throws IndexOutOfBoundsException, IllegalArgumentException;
        public int blocks(int set, int one, int other) throws IndexOutOfBoundsException, IllegalArgumentException;
        public boolean isTwofold(int set) throws IllegalArgumentException;
        public int enough(int set) throws IllegalArgumentException;
        public int house(int what) throws IllegalArgumentException;
        public int knock();
        public boolean isSound();
        public long digest();
        """;

    public static void main(String[] args) {
        isFinalAndByItself();
        hasOneConstructor();
        hasTheMethods();
        hasNoOtherMembers();
        hasNoNameTwice();
        finish("FaceTest");
    }

    private static void isFinalAndByItself() {
        says("public final class Swaphouse, without a package line");
        same("kind", Modifier.toString(Swaphouse.class.getModifiers()), "public final");
        same("package", Swaphouse.class.getPackageName(), "");
        same("class above it", Swaphouse.class.getSuperclass(), Object.class);
        same("interfaces", Swaphouse.class.getInterfaces().length, 0);
    }

    private static void hasOneConstructor() {
        says(1, "public Swaphouse();");
        Constructor<?>[] constructors = Swaphouse.class.getDeclaredConstructors();
        same("constructors", constructors.length, 1);
        same("constructor", constructors[0].toString(), "public Swaphouse()");
    }

    private static void hasTheMethods() {
        List<String> rows = FACE.lines().collect(Collectors.toList());
        Set<String> due = new TreeSet<>();
        Set<String> got = new TreeSet<>();
        for (String row : rows) {
            due.add(withoutNames(row));
        }
        for (Method method : publicMethods()) {
            got.add(row(method));
        }
        says("The public face");
        same("rows of the face", rows.size(), 46);
        for (String row : due) {
            same("the class has " + row, got.contains(row), true);
        }
        for (String row : got) {
            same("the face has " + row, due.contains(row), true);
        }
    }

    /** A row of the face with its arguments' kinds alone. */
    private static String withoutNames(String row) {
        return row.strip().replaceAll("(int|String|boolean|long) \\w+(?=[,)])", "$1");
    }

    private static String row(Method method) {
        StringBuilder row = new StringBuilder(Modifier.toString(method.getModifiers()));
        row.append(' ').append(method.getReturnType().getSimpleName());
        row.append(' ').append(method.getName()).append(names("(", method.getParameterTypes())).append(')');
        if (method.getExceptionTypes().length > 0) {
            row.append(names(" throws ", method.getExceptionTypes()));
        }
        return row.append(';').toString();
    }

    private static String names(String ahead, Class<?>[] classes) {
        return Arrays.stream(classes).map(Class::getSimpleName).collect(Collectors.joining(", ", ahead, ""));
    }

    private static List<Method> publicMethods() {
        return Arrays.stream(Swaphouse.class.getDeclaredMethods())
                .filter(method -> Modifier.isPublic(method.getModifiers())).collect(Collectors.toList());
    }

    private static void hasNoOtherMembers() {
        says("no other public, protected or package-visible member, but for the classes inside it");
        for (Field field : Swaphouse.class.getDeclaredFields()) {
            same(field + " is private", Modifier.isPrivate(field.getModifiers()), true);
        }
        for (Method method : Swaphouse.class.getDeclaredMethods()) {
            int kind = method.getModifiers();
            same(method + " is public or private", Modifier.isPublic(kind) || Modifier.isPrivate(kind), true);
        }
        for (Class<?> inside : Swaphouse.class.getDeclaredClasses()) {
            int kind = inside.getModifiers();
            same(inside + " is static", Modifier.isStatic(kind), true);
            same(inside + " is not public", Modifier.isPublic(kind) || Modifier.isProtected(kind), false);
        }
    }

    private static void hasNoNameTwice() {
        says("No private method bears the name of a public one");
        Set<String> names = publicMethods().stream().map(Method::getName).collect(Collectors.toSet());
        same("public names", names.size(), 46);
        Stream.concat(Stream.of(Swaphouse.class), Arrays.stream(Swaphouse.class.getDeclaredClasses()))
                .flatMap(inside -> Arrays.stream(inside.getDeclaredMethods()))
                .filter(method -> !Modifier.isPublic(method.getModifiers()))
                .forEach(method -> same(method + " has a name of the face", names.contains(method.getName()), false));
    }
}
