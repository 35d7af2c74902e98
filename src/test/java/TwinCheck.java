import java.util.ArrayList;
import java.util.List;
import java.util.NoSuchElementException;

/** Two looms told alike: one is refused a call, and both have to answer alike then, whatever they are asked. */
final class TwinCheck {
    interface Telling {
        void tell(Polyloom loom);
    }

    interface Question {
        Object ask(Polyloom loom);
    }

    static final Class<? extends RuntimeException> ARGUMENT = IllegalArgumentException.class;
    static final Class<? extends RuntimeException> STATE = IllegalStateException.class;
    static final Class<? extends RuntimeException> INDEX = IndexOutOfBoundsException.class;
    static final Class<? extends RuntimeException> UNSUPPORTED = UnsupportedOperationException.class;
    static final Class<? extends RuntimeException> ELEMENT = NoSuchElementException.class;
    static final Class<? extends RuntimeException> ARITHMETIC = ArithmeticException.class;
    static final int[] EXTREMES = {Integer.MIN_VALUE, Integer.MAX_VALUE};

    private static final int STATEMENTS = 5;
    private static final int ROWS = 4;

    private TwinCheck() {
    }

    static Polyloom told(Telling telling) {
        Polyloom loom = new Polyloom();
        telling.tell(loom);
        return loom;
    }

    /** The call has to be refused by exactly this exception, and to leave nothing behind. */
    static void refused(String what, Class<? extends RuntimeException> want, Telling telling, Question call) {
        Polyloom one = told(telling);
        PromiseCheck.refused(what, want, () -> call.ask(one));
        alike("behind " + what, telling, one);
    }

    /** The call has to answer, and to leave nothing behind, for it only asks. */
    static void asked(String what, Object want, Telling telling, Question call) {
        Polyloom one = told(telling);
        PromiseCheck.due(what, want, call.ask(one));
        alike("behind " + what, telling, one);
    }

    /** The loom has to answer as a new one does that is told so. */
    static void alike(String when, Telling telling, Polyloom one) {
        List<String> due = answersOf(told(telling));
        List<String> got = answersOf(one);
        for (int x = 0; x < due.size() && x < got.size(); x++) {
            if (!due.get(x).equals(got.get(x))) {
                PromiseCheck.due("what is asked " + when, due.get(x), got.get(x));
                return;
            }
        }
        PromiseCheck.due("how much is asked " + when, due.size(), got.size());
    }

    /** Asks what can be asked, then tells what brings the rest to light: what is typed, flags, places, parameter. */
    private static List<String> answersOf(Polyloom loom) {
        List<String> all = new ArrayList<>();
        askSchedule(loom, all);
        askPoints(loom, all);
        askOrders(loom, all);
        askMemories(loom, all);
        tellTyped(loom, all);
        tellFlags(loom, all);
        return all;
    }

    private static void add(List<String> all, String what, PromiseCheck.Call call) {
        String answer;
        try {
            answer = String.valueOf(call.answer());
        } catch (RuntimeException e) {
            answer = e.getClass().getSimpleName();
        }
        all.add(what + " -> " + answer);
    }

    private static void askSchedule(Polyloom loom, List<String> all) {
        add(all, "rows", () -> loom.rows());
        add(all, "isLegal", () -> loom.isLegal());
        add(all, "broken", () -> loom.broken());
        for (int row = 0; row < ROWS; row++) {
            int r = row;
            for (int of : new int[] {0, 1, STATEMENTS - 1}) {
                for (int number = 0; number < 6; number++) {
                    int x = number;
                    add(all, "row " + of + " " + r + " " + x, () -> loom.row(of, r, x));
                }
            }
            add(all, "carried " + r, () -> loom.carried(r));
            add(all, "band " + r, () -> loom.band(r));
            add(all, "footprint " + r, () -> loom.footprint(r, 1));
            add(all, "messages " + r, () -> loom.messages(r, 2));
        }
    }

    private static void askPoints(Polyloom loom, List<String> all) {
        for (int statement = 0; statement <= STATEMENTS; statement++) {
            int s = statement;
            add(all, "count " + s, () -> loom.count(s));
            add(all, "period " + s, () -> loom.period(s));
            add(all, "point " + s, () -> loom.point(s, 1, 0));
        }
        add(all, "first 0", () -> loom.first(0));
        add(all, "first 3", () -> loom.first(3));
        for (char kind : "fao".toCharArray()) {
            add(all, "needs " + kind, () -> loom.needs(kind));
        }
        for (char what : "stkijl".toCharArray()) {
            add(all, "need 1 " + what, () -> loom.need(1, what));
        }
    }

    private static void askOrders(Polyloom loom, List<String> all) {
        for (int time = 0; time < 3; time++) {
            int t = time;
            add(all, "visited " + t, () -> loom.visited(t, 0));
            add(all, "statement visited " + t, () -> loom.visited(t, 3));
        }
        add(all, "time", () -> loom.time(0, 1));
        add(all, "pieces", () -> loom.pieces());
        for (char what : "lgsn".toCharArray()) {
            add(all, "piece 0 " + what, () -> loom.piece(0, what));
        }
        add(all, "reuse 0", () -> loom.reuse(0));
        add(all, "reuse 3", () -> loom.reuse(3));
        add(all, "misses 2 3", () -> loom.misses(2, 3));
        add(all, "misses 4 1", () -> loom.misses(4, 1));
    }

    private static void askMemories(Polyloom loom, List<String> all) {
        for (int array = 0; array < 4; array++) {
            int a = array;
            add(all, "storage " + a, () -> loom.storage(a));
            add(all, "cell 1 1 of " + a, () -> loom.cell(a, 1, 1, true));
            add(all, "cell 2 0 of " + a, () -> loom.cell(a, 2, 0, false));
        }
        add(all, "isSame", () -> loom.isSame());
        add(all, "checksum", () -> loom.checksum());
        add(all, "parallelShare", () -> loom.parallelShare());
        add(all, "meanReuse", () -> loom.meanReuse());
        add(all, "isConsistent", () -> loom.isConsistent());
    }

    /** What is typed shows by what it does as a second number, a guard, and what more can be typed. */
    private static void tellTyped(Polyloom loom, List<String> all) {
        add(all, "type", () -> loom.type(0));
        for (int statement = 0; statement < STATEMENTS; statement++) {
            int s = statement;
            add(all, "second " + s, () -> loom.access(s, 0, false, true));
            add(all, "checksum behind it", () -> loom.checksum());
            add(all, "footprint behind it", () -> loom.footprint(0, 1));
            add(all, "needs behind it", () -> loom.needs('f'));
            add(all, "guard " + s, () -> loom.guard(s, 0));
            add(all, "count behind it", () -> loom.count(s));
        }
        add(all, "clearRow", () -> loom.clearRow());
    }

    private static void tellFlags(Polyloom loom, List<String> all) {
        add(all, "parameter", () -> loom.parameter(3));
        add(all, "first 3 by 3", () -> loom.first(3));
        add(all, "checksum by 3", () -> loom.checksum());
        for (int array = 0; array < 4; array++) {
            int a = array;
            add(all, "layout " + a, () -> loom.layout(a, false));
        }
        for (int statement = 0; statement < STATEMENTS; statement++) {
            int s = statement;
            for (int number = 0; number < 4; number++) {
                int x = number;
                add(all, "unknown " + s + " " + x, () -> loom.unknown(s, x, false));
                add(all, "place " + s + " " + x, () -> loom.place(s, x, 0));
            }
            add(all, "reduction " + s, () -> loom.reduction(s, false));
        }
        add(all, "first 3 by places", () -> loom.first(3));
        add(all, "reset", () -> loom.reset());
        add(all, "checksum at last", () -> loom.checksum());
    }

    // ---- what looms are told

    static void nothing(Polyloom loom) {
        // A new loom.
    }

    /** Three statements that tell something of everything, 4 rows, and two numbers typed. */
    static void mixed(Polyloom loom) {
        loom.statement(2);
        loom.statement(1);
        loom.statement(3);
        loom.parameter(5);
        PromiseCheck.range(loom, 0, 0, 1, 4);
        PromiseCheck.write(loom, 0, 0, 1);
        PromiseCheck.second(loom, 0, 0, 1);
        PromiseCheck.read(loom, 0, 0, 1, 0, 0, 0, -1);
        PromiseCheck.second(loom, 0, 0, 1);
        PromiseCheck.read(loom, 0, 1, 0, 1);
        PromiseCheck.write(loom, 1, 1, 1);
        PromiseCheck.read(loom, 1, 1, 1);
        PromiseCheck.read(loom, 1, 0, 1);
        loom.reduction(1, true);
        PromiseCheck.range(loom, 2, 0, 2, 2);
        PromiseCheck.range(loom, 2, 1, 1, 2);
        PromiseCheck.type(loom, 1, 1, -1);
        loom.guard(2, 2);
        PromiseCheck.write(loom, 2, 3, 0, 1);
        PromiseCheck.read(loom, 2, 2, 0, 0, 1);
        loom.unknown(2, 0, true);
        loom.place(1, 0, 0);
        loom.place(0, 1, 2);
        loom.layout(1, true);
        loom.script('t', 1, 2, 0);
        loom.script('c', 1, 0, 3);
        PromiseCheck.type(loom, 1, 2);
    }

    /** As many statements as there can be, the first with all bounds, guards and reads, and five numbers typed. */
    static void full(Polyloom loom) {
        for (int s = 0; s < STATEMENTS; s++) {
            loom.statement(1 + s % 3);
        }
        PromiseCheck.range(loom, 0, 0, 0, 4);
        PromiseCheck.range(loom, 0, 0, -1, 5);
        PromiseCheck.type(loom, 1);
        loom.guard(0, 2);
        PromiseCheck.type(loom, 1, 0, 0, 0, 1);
        loom.guard(0, 0);
        PromiseCheck.write(loom, 0, 0, 1);
        for (int read = 0; read < 3; read++) {
            PromiseCheck.read(loom, 0, read, 1, 0, 0, 0, -read);
        }
        PromiseCheck.read(loom, 1, 0, 1);
        loom.script('n', 0, 0, 0);
        PromiseCheck.type(loom, 1, 0, 0, 0, -2);
    }

    /** Array 0 at (i, j) out of (i - 1, j) and (i, j - 1), for i and j from 1 to 3: 9 points and 12 needs. */
    static void stencil(Polyloom loom) {
        loom.statement(2);
        PromiseCheck.type(loom, 0, 0, 0, 0, 1);
        loom.bound(0, 0, true);
        PromiseCheck.type(loom, 0, 0, 0, 0, 1);
        loom.bound(0, 1, true);
        PromiseCheck.write(loom, 0, 0, 1);
        PromiseCheck.second(loom, 0, 0, 1);
        PromiseCheck.read(loom, 0, 0, 1, 0, 0, 0, -1);
        PromiseCheck.second(loom, 0, 0, 1);
        PromiseCheck.read(loom, 0, 0, 1);
        PromiseCheck.second(loom, 0, 0, 1, 0, 0, -1);
    }

    /** The stencil, taken the other way round: not legal. */
    static void backwards(Polyloom loom) {
        stencil(loom);
        loom.script('r', 0, 0, 0);
    }

    /** Each iterator from -6 to 6 at the parameter 4, which is too many, and 0 alone at the parameter 3. */
    static void crowded(Polyloom loom) {
        loom.statement(3);
        for (int iterator = 0; iterator < 3; iterator++) {
            PromiseCheck.type(loom, 0, 0, 0, -6, 18);
            loom.bound(0, iterator, true);
            PromiseCheck.type(loom, 0, 0, 0, 6, -18);
            loom.bound(0, iterator, false);
        }
        PromiseCheck.write(loom, 0, 0, 1);
        PromiseCheck.read(loom, 0, 0, 0, 1);
        PromiseCheck.type(loom, 7);
    }

    /** More than 20000 numbers gone through, of which the guard leaves no point. */
    static void crowdedWithoutPoints(Polyloom loom) {
        crowded(loom);
        loom.clearRow();
        PromiseCheck.type(loom, 0, 0, 0, 0, -1);
        loom.guard(0, 0);
        loom.parameter(30);
    }
}
