/** Promises 12 to 15 at their limits, from both sides; and what a refused call leaves behind: nothing. */
public final class PointsEdgesTest {
    public static void main(String[] args) {
        promise12Statement();
        promise12NoneAndOne();
        promise13Statement();
        promise13Iterator();
        promise13Index();
        promise13Order();
        promise14Statement();
        promise14GoneThrough();
        promise14Periods();
        promise14Parameters();
        promise15Number();
        promise15Order();
        promise15FirstOrder();
        PromiseCheck.end("PointsEdgesTest");
    }

    private static final int[] NO_STATEMENTS = {-1, 3, Integer.MIN_VALUE, Integer.MAX_VALUE};

    private static void promise12Statement() {
        TwinCheck.asked("count of the last of three", 5, TwinCheck::mixed, l -> l.count(2));
        TwinCheck.asked("count of the last of five", 16, TwinCheck::full, l -> l.count(4));
        TwinCheck.refused("count of a sixth", TwinCheck.INDEX, TwinCheck::full, l -> l.count(5));
        TwinCheck.refused("count of nothing", TwinCheck.INDEX, TwinCheck::nothing, l -> l.count(0));
        for (int statement : NO_STATEMENTS) {
            TwinCheck.refused("count of " + statement, TwinCheck.INDEX, TwinCheck::mixed, l -> l.count(statement));
            TwinCheck.refused("count of " + statement + " of too many", TwinCheck.INDEX, TwinCheck::crowded, l -> l.count(statement));
        }
        TwinCheck.refused("count of too many", TwinCheck.STATE, TwinCheck::crowded, l -> l.count(0));
    }

    private static void promise12NoneAndOne() {
        for (int depth = 1; depth <= 3; depth++) {
            Polyloom loom = new Polyloom();
            loom.statement(depth);
            loom.parameter(0);
            PromiseCheck.due("count of none of the depth " + depth, 0, loom.count(0));
            loom.parameter(1);
            PromiseCheck.due("count of one of the depth " + depth, 1, loom.count(0));
            PromiseCheck.range(loom, 0, depth - 1, 1, 0);
            PromiseCheck.due("count of none by bounds", 0, loom.count(0));
        }
        Polyloom guarded = new Polyloom();
        guarded.statement(1);
        PromiseCheck.type(guarded, 0, 0, 0, 1, -5);
        guarded.guard(0, 0);
        PromiseCheck.due("count of none by a guard", 0, guarded.count(0));
        guarded.parameter(5);
        PromiseCheck.due("count of all by a guard of 0", 5, guarded.count(0));
    }

    private static void promise13Statement() {
        TwinCheck.asked("i of the first of the last of three", 2, TwinCheck::mixed, l -> l.point(2, 0, 0));
        for (int statement : NO_STATEMENTS) {
            TwinCheck.refused("point of " + statement, TwinCheck.INDEX, TwinCheck::mixed, l -> l.point(statement, 0, 0));
        }
        TwinCheck.refused("point of nothing", TwinCheck.INDEX, TwinCheck::nothing, l -> l.point(0, 0, 0));
        TwinCheck.refused("point of a sixth", TwinCheck.INDEX, TwinCheck::full, l -> l.point(5, 0, 0));
    }

    private static void promise13Iterator() {
        for (int depth = 1; depth <= 3; depth++) {
            int d = depth;
            TwinCheck.Telling telling = l -> l.statement(d);
            for (int iterator = 0; iterator < depth; iterator++) {
                int x = iterator;
                TwinCheck.asked("iterator " + x + " of " + depth, 3, telling, l -> l.point(0, l.count(0) - 1, x));
            }
            for (int iterator : new int[] {-1, depth, 3, Integer.MIN_VALUE, Integer.MAX_VALUE}) {
                TwinCheck.refused("iterator " + iterator + " of " + depth, TwinCheck.INDEX, telling, l -> l.point(0, 0, iterator));
            }
        }
    }

    private static void promise13Index() {
        TwinCheck.asked("the first point", 1, TwinCheck::stencil, l -> l.point(0, 0, 0));
        TwinCheck.asked("the last point", 3, TwinCheck::stencil, l -> l.point(0, 8, 0));
        for (int index : new int[] {-1, 9, Integer.MIN_VALUE, Integer.MAX_VALUE}) {
            TwinCheck.refused("point " + index + " of 9", TwinCheck.ELEMENT, TwinCheck::stencil, l -> l.point(0, index, 1));
        }
        Polyloom loom = new Polyloom();
        loom.statement(1);
        loom.statement(1);
        loom.parameter(1);
        PromiseCheck.due("the only point", 0, loom.point(0, 0, 0));
        PromiseCheck.refused("a second one", TwinCheck.ELEMENT, () -> loom.point(0, 1, 0));
        PromiseCheck.due("the only point of another one", 0, loom.point(1, 0, 0));
        loom.parameter(0);
        PromiseCheck.refused("the first of none", TwinCheck.ELEMENT, () -> loom.point(0, 0, 0));
        Polyloom most = new Polyloom();
        most.statement(3);
        PromiseCheck.range(most, 0, 0, 0, 9);
        PromiseCheck.range(most, 0, 1, 0, 9);
        PromiseCheck.range(most, 0, 2, 1, 20);
        PromiseCheck.due("the last of 2000", 20, most.point(0, 1999, 2));
        PromiseCheck.refused("one more than 2000", TwinCheck.ELEMENT, () -> most.point(0, 2000, 2));
    }

    private static void promise13Order() {
        TwinCheck.refused("no iterator, no such point", TwinCheck.INDEX, TwinCheck::stencil, l -> l.point(0, 9, 2));
        TwinCheck.refused("no statement, no such point", TwinCheck.INDEX, TwinCheck::stencil, l -> l.point(1, -1, 0));
        TwinCheck.refused("no statement of too many", TwinCheck.INDEX, TwinCheck::crowded, l -> l.point(1, 0, 0));
        TwinCheck.refused("no iterator of too many", TwinCheck.INDEX, TwinCheck::crowded, l -> l.point(0, 0, 3));
        TwinCheck.refused("no such point of too many", TwinCheck.STATE, TwinCheck::crowded, l -> l.point(0, -1, 0));
        TwinCheck.refused("no points, but too many numbers", TwinCheck.STATE, TwinCheck::crowdedWithoutPoints, l -> l.point(0, 0, 0));
    }

    private static void promise14Statement() {
        TwinCheck.asked("period of the last of five", 1, TwinCheck::full, l -> l.period(4));
        TwinCheck.refused("period of a sixth", TwinCheck.INDEX, TwinCheck::full, l -> l.period(5));
        TwinCheck.refused("period of nothing", TwinCheck.INDEX, TwinCheck::nothing, l -> l.period(0));
        for (int statement : NO_STATEMENTS) {
            TwinCheck.refused("period of " + statement, TwinCheck.INDEX, TwinCheck::mixed, l -> l.period(statement));
            TwinCheck.refused("period of " + statement + " of too many", TwinCheck.INDEX, TwinCheck::crowded, l -> l.period(statement));
        }
        TwinCheck.refused("period with too many numbers of iterators", TwinCheck.ELEMENT, TwinCheck::crowded, l -> l.period(0));
    }

    /** i of 20, j of 400 and 401, k from so many times j to what is told: 1, 2, and many numbers. */
    private static TwinCheck.Telling deep(int timesJ, int... last) {
        return l -> {
            l.statement(3);
            PromiseCheck.range(l, 0, 0, 20, 20);
            PromiseCheck.type(l, 20);
            l.bound(0, 1, true);
            PromiseCheck.type(l, 20, 0, 0, 0, 1);
            l.bound(0, 1, false);
            PromiseCheck.type(l, 0, timesJ);
            l.bound(0, 2, true);
            PromiseCheck.type(l, last);
            l.bound(0, 2, false);
        };
    }

    /** k from -5 j to 20 j - 60 and the parameter 25: 1 + 2 + 801 * 25 + 2 - 2 * 15 are 20000; at 26 there would be 2 more. */
    private static TwinCheck.Telling wide(int more) {
        return deep(-5, -1, 20, 0, 1, more - 20);
    }

    /** k from -4 j to 20 j + 380 and more: 1 + 2 + 801 * 24 + 2 + 2 * 380 are 19989, and twice what is more. */
    private static TwinCheck.Telling even(int more) {
        return deep(-4, 19, 20, 0, 0, more);
    }

    private static void promise14GoneThrough() {
        TwinCheck.asked("period with 20000 numbers at 25", 1, wide(0), l -> l.period(0));
        TwinCheck.refused("period with 20002 numbers at 25", TwinCheck.ELEMENT, wide(1), l -> l.period(0));
        TwinCheck.asked("period with 19999 numbers", 1, even(5), l -> l.period(0));
        TwinCheck.refused("period with 20001 numbers", TwinCheck.ELEMENT, even(6), l -> l.period(0));
        // More than 2000 points are not too many for a period, nor what other statements go through.
        Polyloom two = TwinCheck.told(even(5));
        two.statement(3);
        PromiseCheck.due("period ahead of another one", 1, two.period(0));
        PromiseCheck.due("period behind another one", 1, two.period(1));
        PromiseCheck.refused("count of both", TwinCheck.STATE, () -> two.count(1));
    }

    private static Polyloom guardedBy(int modulus, int other) {
        Polyloom loom = new Polyloom();
        loom.statement(1);
        loom.type(1);
        loom.guard(0, modulus);
        if (other > 0) {
            loom.type(1);
            loom.guard(0, other);
        }
        return loom;
    }

    private static void promise14Periods() {
        for (int period = 2; period <= 4; period++) {
            PromiseCheck.due("period of each " + period, period, guardedBy(period, 0).period(0));
        }
        PromiseCheck.due("period of each second and fourth", 4, guardedBy(2, 4).period(0));
        PromiseCheck.due("period of each third, twice", 3, guardedBy(3, 3).period(0));
        for (int modulus = 5; modulus <= 9; modulus++) {
            Polyloom loom = guardedBy(modulus, 0);
            PromiseCheck.refused("period of each " + modulus, TwinCheck.ELEMENT, () -> loom.period(0));
        }
        PromiseCheck.refused("period of each sixth", TwinCheck.ELEMENT, () -> guardedBy(2, 3).period(0));
        Polyloom none = new Polyloom();
        none.statement(1);
        PromiseCheck.range(none, 0, 0, 1, 0);
        PromiseCheck.due("period of none", 1, none.period(0));
        for (int depth = 1; depth <= 3; depth++) {
            Polyloom loom = new Polyloom();
            loom.statement(depth);
            PromiseCheck.due("period of the power " + depth, 1, loom.period(0));
            loom.parameter(30);
            PromiseCheck.due("period of the power " + depth + ", whatever the parameter", 1, loom.period(0));
        }
    }

    /** One point if the parameter is the one told, or if it is at least that. */
    private static Polyloom at(int parameter, boolean isFrom) {
        Polyloom loom = new Polyloom();
        loom.statement(1);
        PromiseCheck.range(loom, 0, 0, 0, 0);
        PromiseCheck.type(loom, 0, 0, 0, 1, -Math.min(parameter, 20));
        loom.guard(0, 0);
        if (parameter > 20) {
            PromiseCheck.type(loom, 0, 0, 0, 4, -20);
            loom.guard(0, 0);
        } else if (!isFrom) {
            PromiseCheck.type(loom, 0, 0, 0, -1, parameter);
            loom.guard(0, 0);
        }
        return loom;
    }

    private static void promise14Parameters() {
        PromiseCheck.due("period of a point at 5 alone", 1, at(5, false).period(0));
        PromiseCheck.refused("period of a point at 6 alone", TwinCheck.ELEMENT, () -> at(6, false).period(0));
        PromiseCheck.due("period of a point from 6 on", 1, at(6, true).period(0));
        PromiseCheck.refused("period of a point from 7 on", TwinCheck.ELEMENT, () -> at(7, true).period(0));
        for (int last : new int[] {24, 25}) {
            Polyloom loom = new Polyloom();
            loom.statement(1);
            // One more each time up to the parameter told, and none more from there on.
            PromiseCheck.type(loom, 0, 0, 0, 1, -20);
            loom.bound(0, 0, false);
            PromiseCheck.type(loom, 0, 0, 0, 0, last - 20);
            loom.bound(0, 0, false);
            PromiseCheck.type(loom, 0, 0, 0, 0, -20);
            loom.bound(0, 0, true);
            if (last == 25) {
                PromiseCheck.due("period of what stays from 25 on", 1, loom.period(0));
            } else {
                PromiseCheck.refused("period of what stays from 24 on", TwinCheck.ELEMENT, () -> loom.period(0));
            }
        }
        // With the period 4 only the parameters 6 to 9, with those 4, 8, 12 and 16 more, are looked at: all of 6 to 25.
        Polyloom four = guardedBy(4, 0);
        PromiseCheck.type(four, 0, 0, 0, 1, -5);
        four.bound(0, 0, false);
        PromiseCheck.due("period of each fourth, up to 5 less", 4, four.period(0));
        PromiseCheck.range(four, 0, 0, 0, 16);
        PromiseCheck.refused("period of each fourth, up to 16", TwinCheck.ELEMENT, () -> four.period(0));
    }

    private static void promise15Number() {
        int[] due = {0, 0, 0, 1};
        for (int number = 0; number < 4; number++) {
            int x = number;
            TwinCheck.asked("first(" + number + ")", due[number], TwinCheck::mixed, l -> l.first(x));
        }
        TwinCheck.Telling last = l -> {
            l.statement(3);
            PromiseCheck.range(l, 0, 0, 7, 7);
            PromiseCheck.range(l, 0, 1, -8, -7);
            PromiseCheck.range(l, 0, 2, 9, 9);
        };
        TwinCheck.asked("first(0) of three", 7, last, l -> l.first(0));
        TwinCheck.asked("first(1) of three", -8, last, l -> l.first(1));
        TwinCheck.asked("first(2) of three", 9, last, l -> l.first(2));
        for (int number : new int[] {-1, 4, Integer.MIN_VALUE, Integer.MAX_VALUE}) {
            TwinCheck.refused("first(" + number + ")", TwinCheck.ARGUMENT, TwinCheck::mixed, l -> l.first(number));
            TwinCheck.refused("first(" + number + ") of nothing", TwinCheck.ARGUMENT, TwinCheck::nothing, l -> l.first(number));
            TwinCheck.refused("first(" + number + ") of too many", TwinCheck.ARGUMENT, TwinCheck::crowded, l -> l.first(number));
        }
    }

    private static void promise15Order() {
        for (int number = 0; number < 4; number++) {
            int x = number;
            TwinCheck.refused("first of nothing", TwinCheck.ELEMENT, TwinCheck::nothing, l -> l.first(x));
            TwinCheck.refused("first of too many", TwinCheck.STATE, TwinCheck::crowded, l -> l.first(x));
            TwinCheck.refused("first of none, but of too many numbers", TwinCheck.STATE, TwinCheck::crowdedWithoutPoints, l -> l.first(x));
        }
        TwinCheck.refused("first of no points", TwinCheck.ELEMENT, l -> {
            TwinCheck.stencil(l);
            l.parameter(1);
        }, l -> l.first(3));
        Polyloom loom = new Polyloom();
        loom.statement(1);
        loom.parameter(0);
        PromiseCheck.refused("first of none", TwinCheck.ELEMENT, () -> loom.first(3));
        loom.statement(1);
        PromiseCheck.range(loom, 1, 0, 5, 5);
        PromiseCheck.due("the first of one point", 1, loom.first(3));
        PromiseCheck.due("its i", 5, loom.first(0));
    }

    /** A place of 9 is behind one of 8, and ahead of nothing; places count ahead of the iterators behind them. */
    private static void promise15FirstOrder() {
        for (int which = 0; which < 3; which++) {
            Polyloom loom = new Polyloom();
            loom.statement(3);
            loom.statement(3);
            loom.place(1, 0, 0);
            PromiseCheck.due("both at one place: the statement's number", 0, loom.first(3));
            loom.place(0, which, 9);
            loom.place(1, which, 8);
            PromiseCheck.due("the place " + which + " of 8", 1, loom.first(3));
            loom.place(1, which, 9);
            PromiseCheck.due("the place " + which + " of 9, too", 0, loom.first(3));
            // The iterator behind the place goes lower, the one ahead of it does not.
            PromiseCheck.range(loom, 1, which, -1, 0);
            PromiseCheck.due("the iterator behind the place " + which, 1, loom.first(3));
            loom.place(0, which, 8);
            PromiseCheck.due("the place " + which + " ahead of its iterator", 0, loom.first(3));
        }
    }
}
