import java.lang.reflect.InvocationTargetException;
import java.lang.reflect.Method;
import java.util.ArrayList;
import java.util.Arrays;
import java.util.HashMap;
import java.util.List;
import java.util.Map;

/** Runs of calls, made by a fixed rule, on a new Polyloom and on the slow model: all answers must be alike. */
public final class RandomRuns {
    private static final int RUNS = Integer.getInteger("runs", 600);
    private static final int CALLS = 300;
    private static final Map<String, Method> FAST = methodsOf(Polyloom.class);
    private static final Map<String, Method> SLOW = methodsOf(LoomModel.class);
    private static int wrong = 0;

    private final Polyloom fast = new Polyloom();
    private final LoomModel slow = new LoomModel();
    private final List<String> history = new ArrayList<>();
    private final int run;
    private long state;
    private int statements = 0;
    private final int[] depths = new int[5];
    private boolean isOff = false;
    private boolean isBig = false;

    private RandomRuns(int run) {
        this.run = run;
        this.state = run * 7919L + 17;
    }

    public static void main(String[] args) {
        int begin = Integer.getInteger("begin", 1);
        Map<String, Integer> tally = new HashMap<>();
        for (int run = begin; run < begin + RUNS && wrong < 5; run++) {
            RandomRuns one = new RandomRuns(run);
            one.go();
            for (String line : one.history) {
                String key = line.substring(0, line.indexOf('(')) + (line.contains("Exception") ? line.substring(line.indexOf(">") + 1) : "");
                tally.merge(key, 1, Integer::sum);
            }
        }
        if (Boolean.getBoolean("tally")) {
            tally.entrySet().stream().sorted(Map.Entry.comparingByKey()).forEach(e -> System.out.println(e));
        }
        System.out.println(wrong == 0 ? "all random runs are alike" : wrong + " random runs are not alike");
        System.exit(wrong == 0 ? 0 : 1);
    }

    private static Map<String, Method> methodsOf(Class<?> of) {
        Map<String, Method> all = new HashMap<>();
        for (Method m : of.getDeclaredMethods()) {
            if (!m.isSynthetic()) {
                m.setAccessible(true);
                all.putIfAbsent(m.getName() + m.getParameterCount(), m);
            }
        }
        return all;
    }

    private int below(int n) {
        state = state * 6364136223846793005L + 1442695040888963407L;
        return (int) ((state >>> 33) % n);
    }

    private boolean oneIn(int n) {
        return below(n) == 0;
    }

    private int from(int low, int high) {
        return low + below(high - low + 1);
    }

    private Object call(String name, Object... args) {
        if (isOff || history.size() >= CALLS) {
            return null;
        }
        if (args.length > 0 && oneIn(100)) {
            makeExtreme(args);
        }
        Object a = ask(FAST, fast, name, args);
        Object b = ask(SLOW, slow, name, args);
        history.add(name + Arrays.toString(args).replace('[', '(').replace(']', ')') + " ->" + b);
        if (!a.equals(b)) {
            isOff = true;
            wrong++;
            System.out.println("run " + run + ", answered " + a + " in the last call of");
            history.forEach(line -> System.out.println("    " + line));
        }
        return b;
    }

    private void makeExtreme(Object[] args) {
        int x = below(args.length);
        if (args[x] instanceof Integer) {
            args[x] = new int[] {Integer.MIN_VALUE, Integer.MAX_VALUE, -1, 1 << 30}[below(4)];
        } else if (args[x] instanceof Character) {
            args[x] = (char) (oneIn(2) ? 0 : 65535);
        }
    }

    private static Object ask(Map<String, Method> methods, Object loom, String name, Object[] args) {
        try {
            return methods.get(name + args.length).invoke(loom, args);
        } catch (InvocationTargetException e) {
            if (e.getCause() instanceof Error error) {
                throw error;
            }
            return e.getCause().getClass().getSimpleName();
        } catch (IllegalAccessException e) {
            throw new IllegalStateException(e);
        }
    }

    private void go() {
        if (run % 10 == 0) {
            findOften();
        } else if (run % 20 == 11) {
            goBig();
        } else {
            goAnyway();
        }
    }

    /** Needs of a few constant differences, and what is found for them. */
    private void findOften() {
        for (int round = 0; round < 3 && statements < 5; round++) {
            int depth = oneIn(4) ? 2 : 3;
            call("parameter", from(2, 4));
            call("statement", depth);
            depths[statements] = depth;
            statements++;
            int s = statements - 1;
            int array = oneIn(4) ? 0 : s % 4;
            tellAccess(s, array, true, 0, 0, 0);
            for (int reads = from(1, 3); reads > 0; reads--) {
                tellAccess(s, array, false, from(-2, 2), from(-2, 2), depth > 2 ? from(-2, 2) : 0);
                call("find");
                for (int r = 0; r < 3; r++) {
                    for (int number = 0; number < 3; number++) {
                        call("row", s, r, number);
                    }
                }
                call("isLegal");
                call("band", 0);
                call("band", 1);
                call("carried", 0);
                call("isSame");
            }
        }
        askAnything(10);
    }

    /** The access of (i + a, 10 j + k + 10 b + c), in which no two points are alike. */
    private void tellAccess(int s, int array, boolean isWrite, int a, int b, int c) {
        type(new int[] {1, 0, 0, 0, a});
        call("access", s, array, isWrite, false);
        type(depths[s] > 2 ? new int[] {0, 6, 1, 0, 6 * b + c} : new int[] {0, 6, 0, 0, 6 * b});
        call("access", s, array, isWrite, true);
    }

    /** Some thousand points, and fewer calls. */
    private void goBig() {
        isBig = true;
        call("parameter", from(8, 12));
        for (int s = from(1, 2); s > 0; s--) {
            addStatement();
        }
        for (int round = 0; round < 5; round++) {
            askAnything(4);
            changeSchedule();
            addAccess(below(Math.max(1, statements)), oneIn(3));
        }
    }

    private void goAnyway() {
        if (oneIn(10)) {
            askAnything(from(1, 30));
        }
        call("parameter", oneIn(10) ? from(0, 30) : from(2, 6));
        int wanted = oneIn(20) ? 5 : from(1, 3);
        for (int s = 0; s < wanted; s++) {
            addStatement();
        }
        for (int round = 0; round < 60 && history.size() < CALLS; round++) {
            askAnything(from(1, 12));
            if (oneIn(3)) {
                changeStructure();
            } else {
                changeSchedule();
            }
        }
    }

    // ---- making nests

    private void addStatement() {
        int depth = oneIn(60) ? from(-1, 5) : isBig ? 3 : new int[] {1, 1, 2, 2, 2, 3}[below(6)];
        Object number = call("statement", depth);
        if (!(number instanceof Integer)) {
            return;
        }
        depths[statements] = depth;
        statements++;
        int s = statements - 1;
        for (int bounds = below(3); bounds > 0; bounds--) {
            addBound(s);
        }
        if (oneIn(3)) {
            addGuard(s);
        }
        if (oneIn(3)) {
            call("place", s, from(0, 2), from(0, 3));
        }
        for (int accesses = from(0, 3); accesses > 0; accesses--) {
            addAccess(s, false);
        }
        if (!oneIn(6)) {
            addAccess(s, true);
        }
        if (oneIn(5)) {
            call("unknown", s, from(0, 3), true);
        }
        if (oneIn(4)) {
            makeReduction(s);
        }
    }

    private void makeReduction(int s) {
        int[] a = expression(depths[s]);
        int[] b = expression(depths[s]);
        int array = below(4);
        if (oneIn(2)) {
            Object before = call("statement", depths[s]);
            if (before instanceof Integer) {
                depths[statements] = depths[s];
                statements++;
                s = statements - 1;
            }
        }
        for (int side = 0; side < 2; side++) {
            type(a);
            call("access", s, array, side == 0, false);
            if (!oneIn(3)) {
                type(b);
                call("access", s, array, side == 0, true);
            }
        }
        if (oneIn(4)) {
            readAgain(s, array, a, b);
        }
        if (oneIn(2)) {
            addAccess(s, false);
        }
        call("reduction", s, true);
    }

    /** The sum's own cell, or one near it, read once more: what comes of that read is no part of the sum. */
    private void readAgain(int s, int array, int[] a, int[] b) {
        type(a);
        call("access", s, array, false, false);
        if (oneIn(2)) {
            type(b);
            call("access", s, array, false, true);
        }
    }

    private void addBound(int s) {
        int iterator = oneIn(40) ? from(-1, 3) : below(Math.max(1, depths[s]));
        boolean isLower = oneIn(2);
        int[] e = new int[5];
        for (int x = 0; x < Math.min(iterator, 3); x++) {
            e[x] = oneIn(2) ? from(-1, 1) : 0;
        }
        e[3] = isLower ? (oneIn(6) ? from(-1, 1) : 0) : (oneIn(3) ? 0 : 1);
        e[4] = isLower ? from(-2, 2) : from(-2, 4);
        if (oneIn(30)) {
            e[below(5)] = from(-20, 20);
        }
        type(e);
        call("bound", s, iterator, isLower);
    }

    private void addGuard(int s) {
        int[] e = expression(depths[s]);
        type(e);
        call("guard", s, oneIn(30) ? from(-1, 10) : oneIn(2) ? 0 : from(2, 4));
    }

    private void addAccess(int s, boolean isWrite) {
        int array = oneIn(30) ? from(-1, 4) : oneIn(2) ? 0 : from(0, 3);
        type(expression(oneIn(40) ? 3 : depths[s]));
        call("access", s, array, isWrite, oneIn(40));
        if (!oneIn(3)) {
            type(expression(oneIn(40) ? 3 : depths[s]));
            call("access", s, array, isWrite, true);
        }
    }

    private int[] expression(int depth) {
        int[] e = new int[5];
        for (int x = 0; x < depth; x++) {
            e[x] = oneIn(2) ? (oneIn(5) ? from(-3, 3) : from(0, 1)) : 0;
        }
        e[3] = oneIn(8) ? from(-1, 1) : 0;
        e[4] = oneIn(2) ? from(-2, 2) : 0;
        if (oneIn(30)) {
            e[4] = from(-20, 20);
        }
        return e;
    }

    private void type(int[] e) {
        if (oneIn(30)) {
            call("clearRow");
        }
        if (oneIn(50)) {
            return;
        }
        int last = 0;
        for (int x = 0; x < 5; x++) {
            last = e[x] != 0 ? x : last;
        }
        if (oneIn(20)) {
            last = 4;
        }
        for (int x = 0; x <= last; x++) {
            call("type", e[x]);
        }
        if (oneIn(100)) {
            call("type", oneIn(2) ? from(-22, 22) : 3);
        }
    }

    private int anyStatement() {
        return oneIn(25) ? from(-1, 5) : below(Math.max(1, statements));
    }

    private int anyRow() {
        return oneIn(25) ? from(-1, 4) : below(slow.rows());
    }

    private void changeStructure() {
        int s = anyStatement();
        boolean isThere = s >= 0 && s < statements;
        switch (below(9)) {
            case 0 -> call("parameter", oneIn(8) ? from(-1, 31) : from(1, 7));
            case 1 -> call("place", s, oneIn(20) ? from(-1, 3) : from(0, 2), oneIn(20) ? from(-1, 10) : from(0, 4));
            case 2 -> call("unknown", s, oneIn(20) ? from(-1, 4) : from(0, 3), oneIn(3));
            case 3 -> call("reduction", s, oneIn(2));
            case 4 -> {
                if (isThere) {
                    addAccess(s, oneIn(2));
                }
            }
            case 5 -> {
                if (isThere) {
                    addGuard(s);
                }
            }
            case 6 -> {
                if (isThere) {
                    addBound(s);
                }
            }
            case 7 -> {
                if (oneIn(3)) {
                    addStatement();
                }
            }
            default -> {
                call("clearRow");
                badTelling(s);
            }
        }
    }

    private void badTelling(int s) {
        switch (below(4)) {
            case 0 -> call("bound", s, from(-1, 3), oneIn(2));
            case 1 -> call("guard", s, from(-1, 10));
            case 2 -> call("access", s, from(-1, 4), oneIn(2), oneIn(2));
            default -> call("type", from(-25, 25));
        }
    }

    private void changeSchedule() {
        switch (below(12)) {
            case 0 -> call("reset");
            case 1, 2 -> call("find");
            case 3 -> call("script", 'r', anyRow(), 0, 0);
            case 4 -> call("script", 'x', anyRow(), anyRow(), 0);
            case 5 -> call("script", 's', anyRow(), anyRow(), oneIn(10) ? from(-6, 6) : from(-2, 2));
            case 6, 7 -> call("script", 't', anyRow(), oneIn(10) ? from(1, 21) : from(2, 3), 0);
            case 8 -> call("script", 'c', anyStatement(), anyRow(), oneIn(10) ? from(-21, 21) : from(-2, 2));
            case 9 -> call("script", 'd', anyRow(), 0, 0);
            case 10 -> call("script", 'n', from(-3, 9), from(-3, 9), from(-30, 30));
            default -> call("script", "xrstcdnq".charAt(below(8)), from(-1, 4), from(-1, 4), from(-6, 6));
        }
    }

    // ---- asking

    private void askAnything(int times) {
        for (int t = 0; t < times; t++) {
            switch (below(4)) {
                case 0 -> askPoints();
                case 1 -> askSchedule();
                case 2 -> askOrders();
                default -> askFigures();
            }
        }
    }

    private void askPoints() {
        switch (below(7)) {
            case 0 -> call("count", anyStatement());
            case 1, 2 -> call("point", anyStatement(), from(-1, 20), oneIn(20) ? from(-1, 3) : from(0, 1));
            case 3 -> call("period", anyStatement());
            case 4 -> call("first", oneIn(20) ? from(-1, 4) : from(0, 3));
            case 5 -> call("needs", oneIn(20) ? 'x' : "fao".charAt(below(3)));
            default -> call("need", from(-1, oneIn(2) ? 5 : 60), oneIn(30) ? 'x' : "stkijl".charAt(below(6)));
        }
    }

    private void askSchedule() {
        switch (below(7)) {
            case 0 -> call("rows");
            case 1 -> call("row", anyStatement(), anyRow(), oneIn(20) ? from(-1, 6) : from(0, 5));
            case 2 -> call("isLegal");
            case 3 -> call("broken");
            case 4 -> call("carried", anyRow());
            case 5 -> call("isParallel", anyRow());
            default -> call("band", anyRow());
        }
    }

    private void askOrders() {
        switch (below(11)) {
            case 0 -> call("time", anyStatement(), from(-1, 20));
            case 1 -> call("visited", from(-1, 30), oneIn(20) ? from(-1, 4) : from(0, 3));
            case 2 -> call("pieces");
            case 3 -> call("piece", from(-1, 4), oneIn(20) ? 'x' : "lgsn".charAt(below(4)));
            case 4 -> call("footprint", anyRow(), from(-2, 5));
            case 5 -> call("reuse", oneIn(20) ? from(-1, 1) + 5000 * below(2) : from(0, 20));
            case 6 -> call("layout", oneIn(20) ? from(-1, 4) : from(0, 3), oneIn(2));
            case 7 -> call("misses", oneIn(20) ? from(0, 17) : from(1, 5), oneIn(20) ? from(0, 65) : from(1, 8));
            case 8 -> call("storage", oneIn(20) || isBig ? 5 * below(2) - 1 : from(0, 3));
            case 9 -> call("messages", anyRow(), oneIn(20) ? from(0, 17) : from(2, 5));
            default -> call("cell", oneIn(20) ? from(-1, 4) : from(0, 3), cellNumber(6), cellNumber(5), oneIn(2));
        }
    }

    private int cellNumber(int high) {
        return oneIn(20) ? new int[] {-501, -500, 500, 501}[below(4)] : from(-2, high);
    }

    private void askFigures() {
        switch (below(5)) {
            case 0 -> call("isSame");
            case 1 -> call("checksum");
            case 2 -> call("parallelShare");
            case 3 -> call("meanReuse");
            default -> call("isConsistent");
        }
    }
}
