import java.io.IOException;
import java.lang.reflect.Constructor;
import java.lang.reflect.Field;
import java.lang.reflect.Method;
import java.lang.reflect.Modifier;
import java.nio.file.Files;
import java.nio.file.Path;
import java.util.Set;
import java.util.TreeSet;

/** The public face, and what LANGUAGE.md rules out that a look at the class or its text can find. */
public final class FaceTest {
    private static final String[] FACE = {
        "public void AlloyPlans.heat(int) throws IllegalStateException,IllegalArgumentException",
        "public void AlloyPlans.present(int,int,int) throws IndexOutOfBoundsException,IllegalArgumentException",
        "public void AlloyPlans.aim(int,int,int) throws IndexOutOfBoundsException,IllegalArgumentException",
        "public int AlloyPlans.kind(int,int,int) throws IllegalArgumentException,UnsupportedOperationException",
        "public void AlloyPlans.holds(int,int,int,int) throws IndexOutOfBoundsException,IllegalArgumentException",
        "public void AlloyPlans.yields(int,int,int) throws IndexOutOfBoundsException,IllegalArgumentException",
        "public int AlloyPlans.run(int) throws IllegalArgumentException",
        "public int AlloyPlans.steps(int) throws IndexOutOfBoundsException,IllegalStateException",
        "public int AlloyPlans.planned(int) throws IndexOutOfBoundsException,IllegalStateException",
        "public int AlloyPlans.order(int) throws IndexOutOfBoundsException,IllegalStateException",
        "public long AlloyPlans.after(int,int,int) throws IndexOutOfBoundsException,IllegalStateException",
        "public int AlloyPlans.add() throws IllegalStateException,UnsupportedOperationException",
        "public long AlloyPlans.heatAt(int) throws IndexOutOfBoundsException"};

    private static final String[] RULED_OUT = {"import ", "package ", "->", "::", "try {", "catch", "finally",
        "synchronized", "assert", "Exact(", "System.out", "System.err", "System.nanoTime", "currentTimeMillis",
        "Random", "Thread", "instanceof", ".equals", "hashCode", "toString", "getMessage", "double", "float", "while",
        "static {"};

    public static void main(String[] args) throws IOException {
        String text = Files.readString(Path.of(args.length > 0 ? args[0] : "src/main/java/AlloyPlans.java"));
        Check.sentence("The public face", FaceTest::hasTheFace);
        Check.sentence("No private method bears the name of a public one", FaceTest::hasNoOtherName);
        Check.sentence("No other static state", FaceTest::hasConstantsAlone);
        Check.sentence("The Java that the program keeps to", () -> keepsToTheText(text));
        Check.end();
    }

    private static void hasConstantsAlone() {
        hasNoStaticState(AlloyPlans.class);
        for (Class<?> inside : AlloyPlans.class.getDeclaredClasses()) {
            Check.same(inside + " is static", "true", "" + Modifier.isStatic(inside.getModifiers()));
            hasNoStaticState(inside);
        }
    }

    private static void hasTheFace() {
        Set<String> got = new TreeSet<>();
        for (Method method : AlloyPlans.class.getDeclaredMethods()) {
            if (!Modifier.isPrivate(method.getModifiers())) {
                got.add(method.toString().replace("java.lang.", ""));
            }
        }
        for (Field field : AlloyPlans.class.getDeclaredFields()) {
            if (!Modifier.isPrivate(field.getModifiers())) {
                got.add(field.toString());
            }
        }
        Check.same("the face", new TreeSet<>(Set.of(FACE)).toString(), got.toString());
        Constructor<?>[] made = AlloyPlans.class.getDeclaredConstructors();
        Check.same("the constructor", "1 public AlloyPlans()", made.length + " " + made[0]);
        Check.same("the class", "public final", Modifier.toString(AlloyPlans.class.getModifiers()));
    }

    private static void hasNoOtherName() {
        Set<String> taken = new TreeSet<>();
        for (Method method : AlloyPlans.class.getMethods()) {
            if (method.getDeclaringClass() == AlloyPlans.class) {
                taken.add(method.getName());
            }
        }
        Set<String> doubled = new TreeSet<>();
        collectNames(AlloyPlans.class, taken, doubled);
        for (Class<?> inside : AlloyPlans.class.getDeclaredClasses()) {
            collectNames(inside, taken, doubled);
        }
        Check.same("other methods with a name of the face", "[]", doubled.toString());
    }

    private static void collectNames(Class<?> of, Set<String> taken, Set<String> doubled) {
        for (Method method : of.getDeclaredMethods()) {
            if (taken.contains(method.getName()) && !Modifier.isPublic(method.getModifiers())) {
                doubled.add(of.getName() + "." + method.getName());
            }
        }
    }

    private static void hasNoStaticState(Class<?> of) {
        for (Field field : of.getDeclaredFields()) {
            boolean isFine = !Modifier.isStatic(field.getModifiers())
                    || Modifier.isFinal(field.getModifiers()) && field.getType() == int.class;
            Check.same(field + " is a constant", "true", "" + isFine);
        }
    }

    private static void keepsToTheText(String text) {
        String code = text.replaceAll("(?s)/\\*.*?\\*/", "").replaceAll("//[^\n]*", "")
                .replaceAll("\"[^\"\n]*\"", "\"\"");
        for (String word : RULED_OUT) {
            boolean isThere = Character.isLetter(word.charAt(0))
                    ? code.matches("(?s).*\\b" + java.util.regex.Pattern.quote(word) + ".*") : code.contains(word);
            Check.same("the text has '" + word + "'", "false", "" + isThere);
        }
    }
}
