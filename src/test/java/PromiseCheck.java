/** What the tests of promises share: comparing answers, and typing. */
final class PromiseCheck {
    interface Call {
        Object answer();
    }

    private static int wrong = 0;

    private PromiseCheck() {
    }

    static void due(String what, Object want, Object got) {
        if (!want.equals(got)) {
            wrong++;
            System.out.println(what + " answered " + got + ", due is " + want);
        }
    }

    /** An exception's class has to be exactly the one that is due: the machine's own ones are classes below. */
    static void refused(String what, Class<? extends RuntimeException> want, Call call) {
        try {
            Object got = call.answer();
            wrong++;
            System.out.println(what + " answered " + got + ", due is " + want.getSimpleName());
        } catch (RuntimeException e) {
            if (e.getClass() != want) {
                wrong++;
                System.out.println(what + " threw " + e.getClass().getSimpleName() + ", due is " + want.getSimpleName());
            }
        }
    }

    static void type(Polyloom loom, int... numbers) {
        for (int number : numbers) {
            loom.type(number);
        }
    }

    /** A lower and an upper bound that are numbers. */
    static void range(Polyloom loom, int statement, int iterator, int low, int high) {
        type(loom, 0, 0, 0, 0, low);
        loom.bound(statement, iterator, true);
        type(loom, 0, 0, 0, 0, high);
        loom.bound(statement, iterator, false);
    }

    static void write(Polyloom loom, int statement, int array, int... first) {
        type(loom, first);
        loom.access(statement, array, true, false);
    }

    static void read(Polyloom loom, int statement, int array, int... first) {
        type(loom, first);
        loom.access(statement, array, false, false);
    }

    static void second(Polyloom loom, int statement, int... numbers) {
        type(loom, numbers);
        loom.access(statement, 0, false, true);
    }

    /** Array 0 at (i, j) out of (i - 1, j) and (i, j - 1), for i and j from 1 to the parameter less 1. */
    static Polyloom stencil() {
        return TwinCheck.told(TwinCheck::stencil);
    }

    /** i from -20 to 3, j to 20 i + 100 and k to 20 j + 100: too many. */
    static Polyloom crowded() {
        Polyloom loom = new Polyloom();
        loom.statement(3);
        type(loom, 0, 0, 0, 0, -20);
        loom.bound(0, 0, true);
        type(loom, 20, 0, 0, 20, 20);
        loom.bound(0, 1, false);
        type(loom, 0, 20, 0, 20, 20);
        loom.bound(0, 2, false);
        return loom;
    }

    static void end(String name) {
        System.out.println(wrong == 0 ? name + ": all answers are as due" : name + ": " + wrong + " answers are not as due");
        System.exit(wrong == 0 ? 0 : 1);
    }
}
