import java.util.ArrayList;
import java.util.List;
import java.util.NoSuchElementException;

/** Too many points: 2000 and 2001 of them, 20000 and 20001 numbers gone through, 20000 and 20001 needs, by each call. */
public final class TooManyEdgesTest {
    private record Asked(String what, TwinCheck.Question question) {
    }

    public static void main(String[] args) {
        List<Asked> refused = refusedCalls();
        for (int cause = 0; cause < 3; cause++) {
            for (Asked asked : refused) {
                atLimit(cause, asked);
            }
        }
        mostOfEach();
        backFromTooMany();
        answersOfTooMany();
        PromiseCheck.end("TooManyEdgesTest");
    }

    private static List<Asked> refusedCalls() {
        List<Asked> all = new ArrayList<>();
        all.add(new Asked("count", l -> l.count(0)));
        all.add(new Asked("point", l -> l.point(0, 0, 0)));
        all.add(new Asked("first", l -> l.first(3)));
        all.add(new Asked("needs", l -> l.needs('f')));
        all.add(new Asked("need", l -> l.need(0, 's')));
        all.add(new Asked("isLegal", l -> l.isLegal()));
        all.add(new Asked("broken", l -> l.broken()));
        all.add(new Asked("carried", l -> l.carried(0)));
        all.add(new Asked("isParallel", l -> l.isParallel(0)));
        all.add(new Asked("band", l -> l.band(0)));
        all.add(new Asked("time", l -> l.time(0, 0)));
        all.add(new Asked("visited", l -> l.visited(0, 0)));
        all.add(new Asked("pieces", l -> l.pieces()));
        all.add(new Asked("piece", l -> l.piece(0, 'n')));
        all.add(new Asked("footprint", l -> l.footprint(0, 0)));
        all.add(new Asked("reuse", l -> l.reuse(0)));
        all.add(new Asked("misses", l -> l.misses(1, 1)));
        all.add(new Asked("storage", l -> l.storage(0)));
        all.add(new Asked("messages", l -> l.messages(0, 2)));
        all.add(new Asked("cell", l -> l.cell(0, 0, 0, true)));
        all.add(new Asked("isSame", l -> l.isSame()));
        all.add(new Asked("checksum", l -> l.checksum()));
        all.add(new Asked("parallelShare", l -> l.parallelShare()));
        all.add(new Asked("meanReuse", l -> l.meanReuse()));
        all.add(new Asked("isConsistent", l -> l.isConsistent()));
        all.add(new Asked("find", l -> l.find()));
        return all;
    }

    /** At the parameter 4 as much as can be, at 5 one more. */
    private static TwinCheck.Telling most(int cause, int parameter) {
        return l -> {
            if (cause == 0) {
                mostPoints(l);
            } else if (cause == 1) {
                mostNumbers(l);
            } else {
                mostNeeds(l);
            }
            l.parameter(parameter);
        };
    }

    /** 10 times 10 times 20 points, and one more from the parameter 5 on. */
    private static void mostPoints(Polyloom loom) {
        loom.statement(3);
        PromiseCheck.range(loom, 0, 0, 0, 9);
        PromiseCheck.range(loom, 0, 1, 0, 9);
        PromiseCheck.range(loom, 0, 2, 1, 20);
        PromiseCheck.write(loom, 0, 0, 1);
        loom.statement(1);
        PromiseCheck.range(loom, 1, 0, 0, 0);
        PromiseCheck.type(loom, 0, 0, 0, 1, -5);
        loom.guard(1, 0);
    }

    /** 20 + 20 times 27 + 20 times 27 times 36 numbers of iterators, and one more from the parameter 5 on. */
    private static void mostNumbers(Polyloom loom) {
        loom.statement(3);
        PromiseCheck.range(loom, 0, 0, 1, 20);
        PromiseCheck.range(loom, 0, 1, -6, 20);
        PromiseCheck.range(loom, 0, 2, -15, 20);
        PromiseCheck.type(loom, 0, 0, 1, 0, -20);
        loom.guard(0, 0);
        PromiseCheck.write(loom, 0, 0, 1);
        PromiseCheck.second(loom, 0, 0, 1);
        loom.statement(1);
        PromiseCheck.type(loom, 0, 0, 0, 1, -5);
        loom.bound(1, 0, false);
    }

    /** 200 writers of whichever cell, 100 of one cell, and 2 of another one, or 3 from the parameter 5 on. */
    private static void mostNeeds(Polyloom loom) {
        loom.statement(2);
        PromiseCheck.range(loom, 0, 0, 1, 10);
        PromiseCheck.range(loom, 0, 1, 1, 20);
        PromiseCheck.write(loom, 0, 0, 1);
        loom.unknown(0, 3, true);
        loom.statement(2);
        PromiseCheck.range(loom, 1, 0, 1, 10);
        PromiseCheck.range(loom, 1, 1, 1, 10);
        PromiseCheck.write(loom, 1, 1, 0);
        loom.statement(1);
        PromiseCheck.type(loom, 0, 0, 0, 1, -3);
        loom.bound(2, 0, false);
        PromiseCheck.write(loom, 2, 2, 0);
    }

    private static void atLimit(int cause, Asked asked) {
        String what = asked.what() + " by the cause " + cause;
        TwinCheck.refused(what, TwinCheck.STATE, most(cause, 5), asked.question());
        Polyloom loom = TwinCheck.told(most(cause, 4));
        boolean isRefused = false;
        try {
            asked.question().ask(loom);
        } catch (IllegalStateException e) {
            isRefused = true;
        } catch (NoSuchElementException | ArithmeticException e) {
            // There is nothing to answer with, but there are not too many.
        }
        PromiseCheck.due(what + ", one less: refused", false, isRefused);
    }

    private static void mostOfEach() {
        Polyloom points = TwinCheck.told(most(0, 4));
        PromiseCheck.due("2000 points", 2000, points.count(0));
        PromiseCheck.due("the time of the last one", 1999, points.time(0, 1999));
        PromiseCheck.due("the k of the last one visited", 20, points.visited(1999, 2));
        PromiseCheck.refused("one more to visit", TwinCheck.ELEMENT, () -> points.visited(2000, 2));
        PromiseCheck.refused("one more to time", TwinCheck.ELEMENT, () -> points.time(0, 2000));
        PromiseCheck.due("points of the pieces", 2000, points.pieces() * points.piece(0, 'n'));
        Polyloom numbers = TwinCheck.told(most(1, 4));
        PromiseCheck.due("points of 20000 numbers", 540, numbers.count(0));
        Polyloom needs = TwinCheck.told(most(2, 4));
        PromiseCheck.due("needs", 20000, needs.needs('o'));
        PromiseCheck.due("no other needs", 0, needs.needs('f') + needs.needs('a'));
        PromiseCheck.due("the later one of the last need", 2, needs.need(19999, 't'));
        PromiseCheck.refused("one more need", TwinCheck.ELEMENT, () -> needs.need(20000, 't'));
    }

    private static void backFromTooMany() {
        for (int cause = 0; cause < 3; cause++) {
            Polyloom loom = TwinCheck.told(most(cause, 5));
            PromiseCheck.refused("too many", TwinCheck.STATE, () -> loom.checksum());
            PromiseCheck.due("the parameter", 5, loom.parameter(4));
            TwinCheck.alike("behind too many", most(cause, 4), loom);
        }
    }

    /** What does not look at points answers, however many there are. */
    private static void answersOfTooMany() {
        for (int cause = 0; cause < 3; cause++) {
            TwinCheck.Telling telling = most(cause, 5);
            boolean isUnknown = cause == 2;
            TwinCheck.asked("rows of too many", 3, telling, l -> l.rows());
            TwinCheck.asked("row of too many", 1, telling, l -> l.row(0, 0, 0));
            TwinCheck.asked("layout of too many", false, telling, l -> l.layout(0, false));
            TwinCheck.asked("clearRow of too many", 0, telling, l -> l.clearRow());
            TwinCheck.asked("reset of too many", 3, telling, l -> l.reset());
            TwinCheck.asked("x and x again of too many", 3, telling, l -> l.script('x', 0, 1, 0) + 0 * l.script('x', 0, 1, 0));
            TwinCheck.asked("place of too many", 0, telling, l -> l.place(0, 0, 0));
            TwinCheck.asked("reduction of too many", false, telling, l -> l.reduction(0, false));
            TwinCheck.asked("unknown of too many", isUnknown, telling, l -> l.unknown(0, 3, isUnknown));
            TwinCheck.asked("parameter of too many", 5, telling, l -> l.parameter(5));
        }
    }
}
