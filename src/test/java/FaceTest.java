import java.lang.reflect.Constructor;
import java.lang.reflect.Field;
import java.lang.reflect.Method;
import java.lang.reflect.Modifier;
import java.util.ArrayList;
import java.util.List;
import java.util.Set;
import java.util.TreeSet;

/** The public face, as the document writes it, and that there is no more of it. */
public final class FaceTest {
    private static final String FACE = """
            public int type(int number) throws IllegalArgumentException, IllegalStateException;
            public int clearRow();
            public int parameter(int value) throws IllegalArgumentException;
            public int statement(int depth) throws IllegalArgumentException, IllegalStateException;
            public int bound(int statement, int iterator, boolean isLower) throws IndexOutOfBoundsException, IllegalArgumentException, UnsupportedOperationException, IllegalStateException;
            public int guard(int statement, int modulus) throws IndexOutOfBoundsException, IllegalArgumentException, UnsupportedOperationException, IllegalStateException;
            public int place(int statement, int which, int place) throws IndexOutOfBoundsException, IllegalArgumentException;
            public int access(int statement, int array, boolean isWrite, boolean isSecond) throws IndexOutOfBoundsException, IllegalArgumentException, UnsupportedOperationException, IllegalStateException;
            public boolean unknown(int statement, int access, boolean is) throws IndexOutOfBoundsException;
            public boolean reduction(int statement, boolean is) throws IndexOutOfBoundsException;
            public int count(int statement) throws IndexOutOfBoundsException, IllegalStateException;
            public int point(int statement, int index, int iterator) throws IndexOutOfBoundsException, IllegalStateException, NoSuchElementException;
            public int period(int statement) throws IndexOutOfBoundsException, NoSuchElementException;
            public int first(int iterator) throws IllegalArgumentException, IllegalStateException, NoSuchElementException;
            public int needs(char kind) throws IllegalArgumentException, IllegalStateException;
            public int need(int index, char what) throws IllegalArgumentException, IllegalStateException, NoSuchElementException;
            public int script(char step, int a, int b, int c) throws IllegalArgumentException, UnsupportedOperationException, IllegalStateException;
            public int reset();
            public int rows();
            public int row(int statement, int row, int number) throws IndexOutOfBoundsException, IllegalArgumentException;
            public boolean isLegal() throws IllegalStateException;
            public int broken() throws IllegalStateException, NoSuchElementException;
            public int carried(int row) throws IllegalArgumentException, IllegalStateException;
            public boolean isParallel(int row) throws IllegalArgumentException, IllegalStateException;
            public int band(int row) throws IllegalArgumentException, IllegalStateException;
            public int find() throws IllegalStateException, NoSuchElementException;
            public int time(int statement, int index) throws IndexOutOfBoundsException, IllegalStateException, NoSuchElementException;
            public int visited(int time, int iterator) throws IllegalArgumentException, IllegalStateException, NoSuchElementException;
            public int pieces() throws IllegalStateException;
            public int piece(int index, char what) throws IllegalArgumentException, IllegalStateException, NoSuchElementException;
            public int footprint(int row, int number) throws IllegalArgumentException, IllegalStateException;
            public int reuse(int distance) throws IllegalArgumentException, IllegalStateException;
            public boolean layout(int array, boolean isTransposed) throws IndexOutOfBoundsException;
            public int misses(int wide, int lines) throws IllegalArgumentException, IllegalStateException;
            public int storage(int array) throws IndexOutOfBoundsException, IllegalStateException, NoSuchElementException;
            public int messages(int row, int processors) throws IllegalArgumentException, IllegalStateException;
            public int cell(int array, int first, int second, boolean isVisited) throws IndexOutOfBoundsException, IllegalArgumentException, IllegalStateException;
            public boolean isSame() throws IllegalStateException;
            public long checksum() throws IllegalStateException;
            public float parallelShare() throws IllegalStateException, ArithmeticException;
            public double meanReuse() throws IllegalStateException, ArithmeticException;
            public boolean isConsistent() throws IllegalStateException;
            """;

    public static void main(String[] args) {
        theClass();
        theCalls();
        noOtherMembers(Polyloom.class);
        noNameTwice(Polyloom.class);
        for (Class<?> inside : Polyloom.class.getDeclaredClasses()) {
            theClassInside(inside);
        }
        PromiseCheck.end("FaceTest");
    }

    private static void theClass() {
        int modifiers = Polyloom.class.getModifiers();
        PromiseCheck.due("modifiers of the class", "public final", Modifier.toString(modifiers));
        PromiseCheck.due("package of the class", "", Polyloom.class.getPackageName());
        PromiseCheck.due("what the class is made of", Object.class, Polyloom.class.getSuperclass());
        PromiseCheck.due("what the class implements", 0, Polyloom.class.getInterfaces().length);
        Constructor<?>[] made = Polyloom.class.getDeclaredConstructors();
        PromiseCheck.due("constructors", 1, made.length);
        PromiseCheck.due("the constructor", "public Polyloom()", made[0].toString());
    }

    private static void theCalls() {
        Set<String> due = new TreeSet<>();
        for (String line : FACE.strip().split("\n")) {
            due.add(line.replaceAll("(int|char|boolean) \\w+([,)])", "$1$2").replace(";", ""));
        }
        Set<String> got = new TreeSet<>();
        for (Method call : Polyloom.class.getDeclaredMethods()) {
            if (!Modifier.isPrivate(call.getModifiers()) && !call.isSynthetic()) {
                got.add(written(call));
            }
        }
        PromiseCheck.due("how many calls", 42, due.size());
        PromiseCheck.due("the calls", String.join("\n", due), String.join("\n", got));
    }

    private static String written(Method call) {
        String parameters = names(call.getParameterTypes());
        String thrown = names(call.getExceptionTypes());
        return Modifier.toString(call.getModifiers()) + " " + call.getReturnType().getSimpleName() + " " + call.getName()
            + "(" + parameters + ")" + (thrown.isEmpty() ? "" : " throws " + thrown);
    }

    private static String names(Class<?>[] classes) {
        List<String> all = new ArrayList<>();
        for (Class<?> one : classes) {
            all.add(one.getSimpleName());
        }
        return String.join(", ", all);
    }

    /** All fields are private, and those that objects share are constants. */
    private static void noOtherMembers(Class<?> of) {
        for (Field field : of.getDeclaredFields()) {
            int modifiers = field.getModifiers();
            PromiseCheck.due("a private field " + field, true, Modifier.isPrivate(modifiers) || field.isSynthetic());
            PromiseCheck.due("a final one, if it is static " + field, true,
                !Modifier.isStatic(modifiers) || Modifier.isFinal(modifiers));
        }
    }

    private static void theClassInside(Class<?> inside) {
        PromiseCheck.due("a static class inside " + inside, true, Modifier.isStatic(inside.getModifiers()));
        PromiseCheck.due("a public class inside " + inside, false,
            Modifier.isPublic(inside.getModifiers()) || Modifier.isProtected(inside.getModifiers()));
        noOtherMembers(inside);
        noNameTwice(inside);
    }

    /** No method but a public one bears the name of a public one. */
    private static void noNameTwice(Class<?> of) {
        Set<String> face = new TreeSet<>();
        for (Method call : Polyloom.class.getMethods()) {
            face.add(call.getName());
        }
        for (Method call : of.getDeclaredMethods()) {
            PromiseCheck.due("a name of the face for " + call, false,
                !Modifier.isPublic(call.getModifiers()) && face.contains(call.getName()));
            PromiseCheck.due("a public method inside " + call, false,
                of != Polyloom.class && Modifier.isPublic(call.getModifiers()));
        }
    }
}
