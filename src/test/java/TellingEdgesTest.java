/** Promises 1 to 11 at their limits, from both sides; and what a refused call leaves behind: nothing. */
public final class TellingEdgesTest {
    public static void main(String[] args) {
        promise1NewObject();
        promise2Range();
        promise2Full();
        promise3ClearRow();
        promise4Parameter();
        promise5Depth();
        promise5Full();
        promise6Indices();
        promise6Ahead();
        promise6Full();
        promise6Order();
        promise6FromTo();
        promise7Modulus();
        promise7Iterators();
        promise7FullAndOrder();
        promise7Held();
        promise8Place();
        promise9Indices();
        promise9Iterators();
        promise9Full();
        promise9Second();
        promise9Order();
        refusedOfMuchTold();
        promise10Unknown();
        promise11Reduction();
        PromiseCheck.end("TellingEdgesTest");
    }

    /** What a new loom has: no statement, no points, three rows, the parameter 4, and nothing typed. */
    private static void promise1NewObject() {
        Polyloom loom = new Polyloom();
        PromiseCheck.due("typed in a new loom", 0, loom.clearRow());
        PromiseCheck.due("rows of a new loom", 3, loom.rows());
        PromiseCheck.due("needs of a new loom", 0, loom.needs('f') + loom.needs('a') + loom.needs('o'));
        PromiseCheck.due("pieces of a new loom", 0, loom.pieces());
        PromiseCheck.due("footprint of a new loom", 0, loom.footprint(2, 0));
        PromiseCheck.due("reuse in a new loom", 0, loom.reuse(5000));
        PromiseCheck.due("misses of a new loom", 0, loom.misses(16, 64));
        PromiseCheck.due("messages of a new loom", 0, loom.messages(2, 16));
        for (int array = 0; array < 4; array++) {
            PromiseCheck.due("layout in a new loom", false, loom.layout(array, false));
            PromiseCheck.due("storage in a new loom", 1, loom.storage(array));
        }
        TwinCheck.refused("count(0) of a new loom", TwinCheck.INDEX, TwinCheck::nothing, l -> l.count(0));
        TwinCheck.refused("place of a new loom", TwinCheck.INDEX, TwinCheck::nothing, l -> l.place(0, 0, 0));
        TwinCheck.refused("row of a new loom", TwinCheck.INDEX, TwinCheck::nothing, l -> l.row(0, 0, 0));
        TwinCheck.refused("time in a new loom", TwinCheck.INDEX, TwinCheck::nothing, l -> l.time(0, 0));
        PromiseCheck.due("the parameter of a new loom", 4, loom.parameter(4));
    }

    private static void typed(Polyloom loom, int count) {
        for (int x = 0; x < count; x++) {
            loom.type(x + 1);
        }
    }

    private static void promise2Range() {
        for (int number = -20; number <= 20; number++) {
            PromiseCheck.due("type(" + number + ")", 1, new Polyloom().type(number));
        }
        for (int number : new int[] {-21, 21, Integer.MIN_VALUE, Integer.MAX_VALUE}) {
            TwinCheck.refused("type(" + number + ") of the first", TwinCheck.ARGUMENT, TwinCheck::nothing, l -> l.type(number));
            TwinCheck.refused("type(" + number + ") of the third", TwinCheck.ARGUMENT, TwinCheck::mixed, l -> l.type(number));
            TwinCheck.refused("type(" + number + ") with five", TwinCheck.ARGUMENT, TwinCheck::full, l -> l.type(number));
        }
    }

    private static void promise2Full() {
        for (int count = 0; count < 5; count++) {
            Polyloom loom = new Polyloom();
            typed(loom, count);
            PromiseCheck.due("type with " + count, count + 1, loom.type(20));
            PromiseCheck.due("what is typed then", count + 1, loom.clearRow());
        }
        for (int number : new int[] {-20, 0, 20}) {
            TwinCheck.refused("type(" + number + ") with five", TwinCheck.STATE, TwinCheck::full, l -> l.type(number));
        }
        Polyloom loom = new Polyloom();
        typed(loom, 5);
        PromiseCheck.refused("type of the sixth", TwinCheck.STATE, () -> loom.type(0));
        PromiseCheck.due("what is typed behind the sixth", 5, loom.clearRow());
        PromiseCheck.due("type behind it", 1, loom.type(0));
    }

    private static void promise3ClearRow() {
        for (int count = 0; count <= 5; count++) {
            Polyloom loom = new Polyloom();
            loom.statement(1);
            typed(loom, count);
            PromiseCheck.due("clearRow() of " + count, count, loom.clearRow());
            PromiseCheck.due("clearRow() of none then", 0, loom.clearRow());
            PromiseCheck.refused("bound of what was cleared", TwinCheck.UNSUPPORTED, () -> loom.bound(0, 0, true));
            // 2, 3, 4 and 5 must not be there any more behind the number that is typed now.
            PromiseCheck.due("type behind clearRow()", 1, loom.type(0));
            PromiseCheck.due("the bound i <= 0", 1, loom.bound(0, 0, false));
            PromiseCheck.due("count by it", 1, loom.count(0));
        }
        TwinCheck.alike("behind clearRow()", l -> {
            TwinCheck.mixed(l);
            PromiseCheck.due("clearRow() of two", 2, l.clearRow());
        }, TwinCheck.told(l -> {
            TwinCheck.mixed(l);
            l.clearRow();
            l.clearRow();
        }));
    }

    private static void promise4Parameter() {
        Polyloom loom = new Polyloom();
        loom.statement(1);
        int before = 4;
        for (int value = 0; value <= 30; value++) {
            PromiseCheck.due("parameter(" + value + ")", before, loom.parameter(value));
            PromiseCheck.due("count by " + value, value, loom.count(0));
            before = value;
        }
        PromiseCheck.due("parameter(30) once more", 30, loom.parameter(30));
        for (int value : new int[] {-1, 31, Integer.MIN_VALUE, Integer.MAX_VALUE}) {
            TwinCheck.refused("parameter(" + value + ") at first", TwinCheck.ARGUMENT, TwinCheck::nothing, l -> l.parameter(value));
            TwinCheck.refused("parameter(" + value + ") behind 5", TwinCheck.ARGUMENT, TwinCheck::mixed, l -> l.parameter(value));
            TwinCheck.refused("parameter(" + value + ") of too many", TwinCheck.ARGUMENT, TwinCheck::crowded, l -> l.parameter(value));
        }
    }

    private static void promise5Depth() {
        for (int depth = 1; depth <= 3; depth++) {
            Polyloom loom = new Polyloom();
            PromiseCheck.due("statement(" + depth + ")", 0, loom.statement(depth));
            PromiseCheck.due("its last iterator", 0, loom.point(0, 0, depth - 1));
            int beyond = depth;
            PromiseCheck.refused("an iterator more", TwinCheck.INDEX, () -> loom.point(0, 0, beyond));
        }
        for (int depth : new int[] {0, 4, -1, Integer.MIN_VALUE, Integer.MAX_VALUE}) {
            TwinCheck.refused("statement(" + depth + "), the first", TwinCheck.ARGUMENT, TwinCheck::nothing, l -> l.statement(depth));
            TwinCheck.refused("statement(" + depth + "), the fourth", TwinCheck.ARGUMENT, TwinCheck::mixed, l -> l.statement(depth));
            TwinCheck.refused("statement(" + depth + "), the sixth", TwinCheck.ARGUMENT, TwinCheck::full, l -> l.statement(depth));
        }
    }

    private static void promise5Full() {
        Polyloom loom = new Polyloom();
        for (int s = 0; s < 5; s++) {
            loom.script('d', 0, 0, 0);
            PromiseCheck.due("statement " + s, s, loom.statement(1));
            PromiseCheck.due("rows with " + (s + 1), 3, loom.rows());
            PromiseCheck.due("its place 0 at first", s, loom.place(s, 0, s));
            PromiseCheck.due("its place 1 at first", 0, loom.place(s, 1, 0));
            PromiseCheck.due("its place 2 at first", 0, loom.place(s, 2, 0));
        }
        for (int depth = 1; depth <= 3; depth++) {
            int d = depth;
            TwinCheck.refused("a sixth statement", TwinCheck.STATE, TwinCheck::full, l -> l.statement(d));
        }
        // What is told of the statements stays, as the schedules go back.
        Polyloom more = TwinCheck.told(TwinCheck::mixed);
        PromiseCheck.due("a fourth statement", 3, more.statement(3));
        PromiseCheck.due("points of the first one", 20, more.count(0));
        PromiseCheck.due("what is typed", 2, more.clearRow());
        PromiseCheck.due("rows", 3, more.rows());
        PromiseCheck.due("the number that was added", 0, more.row(1, 0, 4));
    }

    private static void typeAt(Polyloom loom, int at, int number) {
        for (int x = 0; x < at; x++) {
            loom.type(0);
        }
        loom.type(number);
    }

    private static void promise6Indices() {
        for (int depth = 1; depth <= 3; depth++) {
            for (int iterator = 0; iterator < depth; iterator++) {
                Polyloom loom = new Polyloom();
                loom.statement(depth);
                loom.type(0);
                PromiseCheck.due("a lower bound of " + iterator + " of " + depth, 1, loom.bound(0, iterator, true));
                loom.type(0);
                PromiseCheck.due("an upper bound of " + iterator + " of " + depth, 1, loom.bound(0, iterator, false));
            }
            int d = depth;
            TwinCheck.Telling telling = l -> {
                l.statement(d);
                l.type(0);
            };
            for (int iterator : new int[] {-1, depth, 3, Integer.MIN_VALUE, Integer.MAX_VALUE}) {
                TwinCheck.refused("bound of the iterator " + iterator + " of " + depth, TwinCheck.INDEX, telling,
                    l -> l.bound(0, iterator, true));
                TwinCheck.refused("upper bound of the iterator " + iterator + " of " + depth, TwinCheck.INDEX, telling,
                    l -> l.bound(0, iterator, false));
            }
            for (int statement : new int[] {-1, 1, 5, Integer.MIN_VALUE, Integer.MAX_VALUE}) {
                TwinCheck.refused("bound of the statement " + statement, TwinCheck.INDEX, telling,
                    l -> l.bound(statement, 0, true));
            }
        }
        Polyloom five = TwinCheck.told(TwinCheck::full);
        five.clearRow();
        five.type(0);
        PromiseCheck.due("bound of the fifth statement", 1, five.bound(4, 1, false));
        TwinCheck.refused("bound of a sixth statement", TwinCheck.INDEX, TwinCheck::full, l -> l.bound(5, 0, true));
    }

    /** Which of the five numbers a bound of each iterator can have: those of iterators ahead, and the last two. */
    private static void promise6Ahead() {
        for (int iterator = 0; iterator < 3; iterator++) {
            for (int at = 0; at < 5; at++) {
                for (int number : new int[] {-20, -1, 1, 20}) {
                    boolean isTaken = at < iterator || at > 2;
                    int x = at;
                    int i = iterator;
                    TwinCheck.Telling telling = l -> {
                        l.statement(3);
                        typeAt(l, x, number);
                    };
                    String what = "bound of " + iterator + " with " + number + " at " + at;
                    if (isTaken) {
                        PromiseCheck.due(what, 1, TwinCheck.told(telling).bound(0, iterator, false));
                    } else if (number == 1 || number == -20) {
                        TwinCheck.refused(what, TwinCheck.ARGUMENT, telling, l -> l.bound(0, i, true));
                        TwinCheck.refused(what, TwinCheck.ARGUMENT, telling, l -> l.bound(0, i, false));
                    }
                }
            }
            Polyloom loom = new Polyloom();
            loom.statement(3);
            PromiseCheck.type(loom, 0, 0, 0);
            PromiseCheck.due("bound with zeros for all iterators", 1, loom.bound(0, iterator, true));
        }
    }

    private static void promise6Full() {
        for (int iterator = 0; iterator < 3; iterator++) {
            for (int side = 0; side < 2; side++) {
                int i = iterator;
                boolean isLower = side == 0;
                TwinCheck.Telling one = l -> {
                    l.statement(3);
                    l.type(0);
                    l.bound(0, i, isLower);
                    l.type(0);
                };
                TwinCheck.Telling two = l -> {
                    one.tell(l);
                    l.bound(0, i, isLower);
                    PromiseCheck.type(l, 0, 0, 0, 0, 1);
                };
                PromiseCheck.due("a second bound", 2, TwinCheck.told(one).bound(0, iterator, isLower));
                TwinCheck.refused("a third bound", TwinCheck.STATE, two, l -> l.bound(0, i, isLower));
                PromiseCheck.due("a bound of the other side", 1, TwinCheck.told(two).bound(0, iterator, !isLower));
                PromiseCheck.due("a bound of another iterator", 1, TwinCheck.told(two).bound(0, (iterator + 1) % 3, isLower));
            }
        }
    }

    /** INDEX, then ARGUMENT, then UNSUPPORTED, then STATE: each ahead of each that can hold as well. */
    private static void promise6Order() {
        TwinCheck.Telling full = l -> {
            l.statement(2);
            PromiseCheck.range(l, 0, 1, 0, 3);
            PromiseCheck.range(l, 0, 1, 0, 3);
        };
        TwinCheck.Telling fullByJ = l -> {
            full.tell(l);
            PromiseCheck.type(l, 0, 1);
        };
        TwinCheck.refused("no statement, nothing typed", TwinCheck.INDEX, full, l -> l.bound(1, 1, true));
        TwinCheck.refused("no statement, by j", TwinCheck.INDEX, fullByJ, l -> l.bound(-1, 1, true));
        TwinCheck.refused("no iterator, nothing typed", TwinCheck.INDEX, full, l -> l.bound(0, 2, false));
        TwinCheck.refused("no iterator, by j", TwinCheck.INDEX, fullByJ, l -> l.bound(0, 2, false));
        TwinCheck.refused("not ahead, and a third one", TwinCheck.ARGUMENT, fullByJ, l -> l.bound(0, 1, true));
        TwinCheck.refused("not ahead, and a third upper one", TwinCheck.ARGUMENT, fullByJ, l -> l.bound(0, 1, false));
        TwinCheck.refused("nothing typed, and a third one", TwinCheck.UNSUPPORTED, full, l -> l.bound(0, 1, true));
        TwinCheck.refused("nothing typed, and a third upper one", TwinCheck.UNSUPPORTED, full, l -> l.bound(0, 1, false));
        TwinCheck.refused("nothing typed", TwinCheck.UNSUPPORTED, full, l -> l.bound(0, 0, false));
    }

    /** From the greatest lower bound to the least upper one, both included; 0 and the parameter less 1 without. */
    private static void promise6FromTo() {
        int[][] of = {{3, 3, 1}, {4, 3, 0}, {3, 4, 2}, {-20, -20, 1}, {-20, 20, 41}, {20, -20, 0}};
        for (int[] x : of) {
            Polyloom loom = new Polyloom();
            loom.statement(1);
            PromiseCheck.range(loom, 0, 0, x[0], x[1]);
            PromiseCheck.due("count from " + x[0] + " to " + x[1], x[2], loom.count(0));
        }
        for (int iterator = 0; iterator < 3; iterator++) {
            for (int turn = 0; turn < 2; turn++) {
                Polyloom loom = new Polyloom();
                loom.statement(3);
                loom.parameter(1);
                PromiseCheck.range(loom, 0, iterator, turn == 0 ? -2 : 1, turn == 0 ? 6 : 3);
                PromiseCheck.range(loom, 0, iterator, turn == 0 ? 1 : -2, turn == 0 ? 3 : 6);
                PromiseCheck.due("count from 1 to 3, whichever is told first", 3, loom.count(0));
                PromiseCheck.due("the first", 1, loom.point(0, 0, iterator));
                PromiseCheck.due("the last", 3, loom.point(0, 2, iterator));
            }
        }
        Polyloom lower = new Polyloom();
        lower.statement(1);
        PromiseCheck.type(lower, 0, 0, 0, 0, 3);
        lower.bound(0, 0, true);
        PromiseCheck.due("count from 3 to the parameter 4 less 1", 1, lower.count(0));
        lower.parameter(3);
        PromiseCheck.due("count from 3 to 2", 0, lower.count(0));
        Polyloom upper = new Polyloom();
        upper.statement(1);
        PromiseCheck.type(upper, 0, 0, 0, 0, 0);
        upper.bound(0, 0, false);
        PromiseCheck.due("count from 0 to 0", 1, upper.count(0));
        PromiseCheck.type(upper, 0, 0, 0, 0, -1);
        upper.bound(0, 0, false);
        PromiseCheck.due("count from 0 to -1", 0, upper.count(0));
    }

    private static void promise7Modulus() {
        for (int modulus : new int[] {0, 2, 3, 8, 9}) {
            Polyloom loom = new Polyloom();
            loom.statement(1);
            loom.type(1);
            PromiseCheck.due("guard modulo " + modulus, 1, loom.guard(0, modulus));
        }
        TwinCheck.Telling telling = l -> {
            l.statement(1);
            l.type(1);
        };
        for (int modulus : new int[] {-1, 1, 10, -2, Integer.MIN_VALUE, Integer.MAX_VALUE}) {
            TwinCheck.refused("guard modulo " + modulus, TwinCheck.ARGUMENT, telling, l -> l.guard(0, modulus));
        }
        for (int statement : new int[] {-1, 1, Integer.MIN_VALUE, Integer.MAX_VALUE}) {
            TwinCheck.refused("guard of the statement " + statement, TwinCheck.INDEX, telling, l -> l.guard(statement, 2));
        }
        TwinCheck.refused("guard of a sixth statement", TwinCheck.INDEX, TwinCheck::full, l -> l.guard(5, 0));
        TwinCheck.refused("guard of the fifth statement, by k", TwinCheck.ARGUMENT, TwinCheck::full, l -> {
            l.clearRow();
            PromiseCheck.type(l, 1, 0, 0, 0, -2);
            return l.guard(4, 10);
        });
    }

    private static void promise7Iterators() {
        for (int depth = 1; depth <= 3; depth++) {
            for (int at = 0; at < 5; at++) {
                int x = at;
                int d = depth;
                TwinCheck.Telling telling = l -> {
                    l.statement(d);
                    typeAt(l, x, -1);
                };
                String what = "guard with -1 at " + at + " of the depth " + depth;
                if (at < depth || at > 2) {
                    PromiseCheck.due(what, 1, TwinCheck.told(telling).guard(0, 9));
                } else {
                    TwinCheck.refused(what, TwinCheck.ARGUMENT, telling, l -> l.guard(0, 9));
                }
            }
            Polyloom loom = new Polyloom();
            loom.statement(depth);
            PromiseCheck.type(loom, 0, 0, 0);
            PromiseCheck.due("guard with zeros for all iterators", 1, loom.guard(0, 0));
        }
    }

    private static void promise7FullAndOrder() {
        TwinCheck.Telling one = l -> {
            l.statement(1);
            l.type(1);
            l.guard(0, 0);
        };
        TwinCheck.Telling two = l -> {
            one.tell(l);
            l.type(1);
            l.guard(0, 2);
        };
        TwinCheck.Telling twoAndOne = l -> {
            two.tell(l);
            l.type(1);
        };
        TwinCheck.Telling twoByJ = l -> {
            two.tell(l);
            PromiseCheck.type(l, 0, 1);
        };
        Polyloom loom = TwinCheck.told(one);
        loom.type(1);
        PromiseCheck.due("a second guard", 2, loom.guard(0, 2));
        PromiseCheck.due("count by both", 2, loom.count(0));
        TwinCheck.refused("a third guard", TwinCheck.STATE, twoAndOne, l -> l.guard(0, 2));
        TwinCheck.refused("a third guard without a modulus", TwinCheck.STATE, twoAndOne, l -> l.guard(0, 0));
        TwinCheck.refused("no statement, modulo 1", TwinCheck.INDEX, twoAndOne, l -> l.guard(1, 1));
        TwinCheck.refused("no statement, nothing typed", TwinCheck.INDEX, two, l -> l.guard(-1, 0));
        TwinCheck.refused("no statement, by j", TwinCheck.INDEX, twoByJ, l -> l.guard(1, 0));
        TwinCheck.refused("modulo 1, nothing typed", TwinCheck.ARGUMENT, one, l -> l.guard(0, 1));
        TwinCheck.refused("modulo 10, and a third one", TwinCheck.ARGUMENT, twoAndOne, l -> l.guard(0, 10));
        TwinCheck.refused("by j, and a third one", TwinCheck.ARGUMENT, twoByJ, l -> l.guard(0, 0));
        TwinCheck.refused("modulo 1, nothing typed, and a third one", TwinCheck.ARGUMENT, two, l -> l.guard(0, 1));
        TwinCheck.refused("nothing typed", TwinCheck.UNSUPPORTED, one, l -> l.guard(0, 0));
        TwinCheck.refused("nothing typed, and a third one", TwinCheck.UNSUPPORTED, two, l -> l.guard(0, 2));
    }

    /** 0 or more; divisible, below 0 too. */
    private static void promise7Held() {
        Polyloom loom = new Polyloom();
        loom.statement(1);
        PromiseCheck.range(loom, 0, 0, -9, 9);
        loom.type(1);
        loom.guard(0, 0);
        PromiseCheck.due("count of 0 or more", 10, loom.count(0));
        PromiseCheck.due("the first of 0 or more", 0, loom.point(0, 0, 0));
        for (int modulus = 2; modulus <= 9; modulus++) {
            Polyloom divided = new Polyloom();
            divided.statement(1);
            PromiseCheck.range(divided, 0, 0, -18, 18);
            divided.type(1);
            divided.guard(0, modulus);
            int least = -18 / modulus * modulus;
            PromiseCheck.due("count of those divisible by " + modulus, -2 * least / modulus + 1, divided.count(0));
            PromiseCheck.due("the first divisible by " + modulus, least, divided.point(0, 0, 0));
            PromiseCheck.due("the second divisible by " + modulus, least + modulus, divided.point(0, 1, 0));
        }
    }

    private static void promise8Place() {
        for (int which = 0; which < 3; which++) {
            for (int place : new int[] {0, 9}) {
                Polyloom loom = TwinCheck.told(TwinCheck::full);
                int before = which == 0 ? 4 : 0;
                PromiseCheck.due("place " + which + " of the fifth", before, loom.place(4, which, place));
                PromiseCheck.due("place " + which + " then", place, loom.place(4, which, 1));
            }
            for (int place : new int[] {-1, 10, Integer.MIN_VALUE, Integer.MAX_VALUE}) {
                int w = which;
                TwinCheck.refused("place " + which + " of " + place, TwinCheck.ARGUMENT, TwinCheck::mixed, l -> l.place(0, w, place));
                TwinCheck.refused("place " + place + " of no statement", TwinCheck.INDEX, TwinCheck::mixed, l -> l.place(3, w, place));
            }
        }
        for (int which : new int[] {-1, 3, Integer.MIN_VALUE, Integer.MAX_VALUE}) {
            TwinCheck.refused("the place " + which, TwinCheck.ARGUMENT, TwinCheck::mixed, l -> l.place(2, which, 0));
            TwinCheck.refused("the place " + which + " of no statement", TwinCheck.INDEX, TwinCheck::mixed, l -> l.place(-1, which, 0));
        }
        for (int statement : new int[] {-1, 3, Integer.MIN_VALUE, Integer.MAX_VALUE}) {
            TwinCheck.refused("place of the statement " + statement, TwinCheck.INDEX, TwinCheck::mixed, l -> l.place(statement, 0, 0));
        }
        TwinCheck.refused("place of a sixth statement", TwinCheck.INDEX, TwinCheck::full, l -> l.place(5, 0, 0));
    }

    private static void promise9Indices() {
        TwinCheck.Telling telling = l -> {
            l.statement(1);
            l.type(1);
        };
        for (int array = 0; array < 4; array++) {
            PromiseCheck.due("a write of " + array, 1, TwinCheck.told(telling).access(0, array, true, false));
            PromiseCheck.due("a read of " + array, 1, TwinCheck.told(telling).access(0, array, false, false));
        }
        for (int array : new int[] {-1, 4, Integer.MIN_VALUE, Integer.MAX_VALUE}) {
            TwinCheck.refused("a write of " + array, TwinCheck.ARGUMENT, telling, l -> l.access(0, array, true, false));
            TwinCheck.refused("a read of " + array, TwinCheck.ARGUMENT, telling, l -> l.access(0, array, false, false));
        }
        for (int statement : new int[] {-1, 1, Integer.MIN_VALUE, Integer.MAX_VALUE}) {
            TwinCheck.refused("a write of the statement " + statement, TwinCheck.INDEX, telling,
                l -> l.access(statement, 0, true, false));
            TwinCheck.refused("a second number of the statement " + statement, TwinCheck.INDEX, telling,
                l -> l.access(statement, 0, true, true));
        }
        TwinCheck.refused("a read of a sixth statement", TwinCheck.INDEX, TwinCheck::full, l -> l.access(5, 0, false, false));
        PromiseCheck.due("a write of the fifth statement", 1, TwinCheck.told(TwinCheck::full).access(4, 0, true, false));
    }

    private static void promise9Iterators() {
        for (int depth = 1; depth <= 3; depth++) {
            for (int at = 0; at < 5; at++) {
                int x = at;
                int d = depth;
                TwinCheck.Telling telling = l -> {
                    l.statement(d);
                    l.type(1);
                    l.access(0, 0, false, false);
                    typeAt(l, x, 1);
                };
                String what = " with 1 at " + at + " of the depth " + depth;
                if (at < depth || at > 2) {
                    PromiseCheck.due("a read" + what, 2, TwinCheck.told(telling).access(0, 0, false, false));
                    PromiseCheck.due("a write" + what, 2, TwinCheck.told(telling).access(0, 0, true, false));
                    PromiseCheck.due("a second number" + what, 1, TwinCheck.told(telling).access(0, 0, true, true));
                } else {
                    TwinCheck.refused("a read" + what, TwinCheck.ARGUMENT, telling, l -> l.access(0, 0, false, false));
                    TwinCheck.refused("a write" + what, TwinCheck.ARGUMENT, telling, l -> l.access(0, 0, true, false));
                    TwinCheck.refused("a second number" + what, TwinCheck.ARGUMENT, telling, l -> l.access(0, 0, true, true));
                }
            }
        }
    }

    private static TwinCheck.Telling reads(int count, boolean isWriting, int... typed) {
        return l -> {
            l.statement(1);
            for (int read = 0; read < count; read++) {
                PromiseCheck.read(l, 0, read, 1);
            }
            if (isWriting) {
                PromiseCheck.write(l, 0, 3, 1);
            }
            PromiseCheck.type(l, typed);
        };
    }

    private static void promise9Full() {
        for (int write = 0; write < 2; write++) {
            boolean isWriting = write == 1;
            for (int count = 0; count < 3; count++) {
                PromiseCheck.due("a read more than " + count, count + 1 + write,
                    TwinCheck.told(reads(count, isWriting, 1)).access(0, 0, false, false));
            }
            for (int array = 0; array < 4; array++) {
                int a = array;
                TwinCheck.refused("a fourth read", TwinCheck.STATE, reads(3, isWriting, 1), l -> l.access(0, a, false, false));
            }
            PromiseCheck.due("a write with three reads", 4, TwinCheck.told(reads(3, isWriting, 1)).access(0, 0, true, false));
            PromiseCheck.due("a second number with three reads", 3 + write,
                TwinCheck.told(reads(3, isWriting, 1)).access(0, 0, false, true));
        }
        Polyloom loom = TwinCheck.told(reads(0, true, 2));
        PromiseCheck.due("a write in place of another one", 1, loom.access(0, 1, true, false));
        PromiseCheck.due("what the other one wrote", 121, loom.cell(3, 1, 0, true));
        PromiseCheck.due("what this one writes", 1, loom.cell(1, 2, 0, true));
    }

    /** The second number goes to the access told last, of this statement. */
    private static void promise9Second() {
        for (int array : new int[] {-1, 4, Integer.MIN_VALUE, Integer.MAX_VALUE}) {
            Polyloom loom = TwinCheck.told(reads(1, true, 0, 0, 0, 0, 5));
            PromiseCheck.due("a second number of the array " + array, 2, loom.access(0, array, false, true));
            PromiseCheck.due("what is written at (1, 5)", 31 * 100 + 1, loom.cell(3, 1, 5, true));
            PromiseCheck.due("what is not written at (1, 0)", 121, loom.cell(3, 1, 0, true));
        }
        Polyloom two = TwinCheck.told(reads(1, true, 0, 0, 0, 0, 5));
        two.statement(1);
        PromiseCheck.refused("a second number of a statement without accesses", TwinCheck.UNSUPPORTED,
            () -> two.access(1, 0, true, true));
        PromiseCheck.due("one more read of the other one", 1, two.access(1, 2, false, false));
        PromiseCheck.type(two, 0, 0, 0, 0, 3);
        PromiseCheck.due("the second number of the first one's write", 2, two.access(0, 2, false, true));
        PromiseCheck.due("what is written at (2, 3)", 31 * 200 + 1, two.cell(3, 2, 3, true));
        // A write told anew is the one told last, whatever reads are there, and its second number is 0 again.
        two.type(1);
        PromiseCheck.due("a write told anew", 2, two.access(0, 3, true, false));
        PromiseCheck.due("what it writes at (2, 0)", 31 * 200 + 1, two.cell(3, 2, 0, true));
        PromiseCheck.type(two, 0, 0, 0, 0, 7);
        PromiseCheck.due("its second number", 2, two.access(0, 0, false, true));
        PromiseCheck.due("what it writes at (2, 7)", 31 * 200 + 1, two.cell(3, 2, 7, true));
        two.unknown(0, 3, true);
        two.type(8);
        two.access(0, 0, true, true);
        PromiseCheck.due("unknown behind a second number", true, two.unknown(0, 3, true));
        two.type(8);
        two.access(0, 1, true, false);
        PromiseCheck.due("unknown of a write told anew", false, two.unknown(0, 3, true));
    }

    private static void promise9Order() {
        TwinCheck.refused("no statement, no array, nothing typed", TwinCheck.INDEX, reads(3, true), l -> l.access(1, 4, false, false));
        TwinCheck.refused("no statement, nothing typed", TwinCheck.INDEX, reads(3, true), l -> l.access(-1, 0, false, true));
        TwinCheck.refused("no statement, by j", TwinCheck.INDEX, reads(0, false, 0, 1), l -> l.access(1, 0, true, false));
        TwinCheck.refused("no array, nothing typed", TwinCheck.ARGUMENT, reads(0, false), l -> l.access(0, 4, true, false));
        TwinCheck.refused("no array, and a fourth read", TwinCheck.ARGUMENT, reads(3, true, 1), l -> l.access(0, -1, false, false));
        TwinCheck.refused("by j, and a fourth read", TwinCheck.ARGUMENT, reads(3, true, 0, 1), l -> l.access(0, 0, false, false));
        TwinCheck.refused("no array, nothing typed, a fourth read", TwinCheck.ARGUMENT, reads(3, true), l -> l.access(0, 4, false, false));
        TwinCheck.refused("by j, and no access told", TwinCheck.ARGUMENT, reads(0, false, 0, 1), l -> l.access(0, 0, false, true));
        TwinCheck.refused("nothing typed, a fourth read", TwinCheck.UNSUPPORTED, reads(3, true), l -> l.access(0, 0, false, false));
        TwinCheck.refused("nothing typed", TwinCheck.UNSUPPORTED, reads(1, true), l -> l.access(0, 0, true, false));
        TwinCheck.refused("nothing typed for a second number", TwinCheck.UNSUPPORTED, reads(1, true), l -> l.access(0, 0, true, true));
        TwinCheck.refused("no access told", TwinCheck.UNSUPPORTED, reads(0, false, 1), l -> l.access(0, 0, true, true));
        TwinCheck.refused("nothing typed, no access told", TwinCheck.UNSUPPORTED, reads(0, false), l -> l.access(0, 9, true, true));
    }

    /** The same refusals by looms of which much was told, that nothing of it is lost: flags, places, rows, numbers typed. */
    private static void refusedOfMuchTold() {
        TwinCheck.Telling cleared = l -> {
            TwinCheck.mixed(l);
            l.clearRow();
        };
        TwinCheck.Telling fullOfZero = l -> {
            TwinCheck.full(l);
            l.clearRow();
            PromiseCheck.type(l, 0, 0, 0, 0, 1);
        };
        for (int side = 0; side < 2; side++) {
            boolean is = side == 0;
            TwinCheck.refused("bound of three statements", TwinCheck.INDEX, TwinCheck::mixed, l -> l.bound(3, 0, is));
            TwinCheck.refused("bound by i and j of i", TwinCheck.ARGUMENT, TwinCheck::mixed, l -> l.bound(0, 0, is));
            TwinCheck.refused("bound by i and j of j", TwinCheck.ARGUMENT, TwinCheck::mixed, l -> l.bound(0, 1, is));
            TwinCheck.refused("bound by nothing", TwinCheck.UNSUPPORTED, cleared, l -> l.bound(0, 1, is));
            TwinCheck.refused("a third bound", TwinCheck.STATE, fullOfZero, l -> l.bound(0, 0, is));
            TwinCheck.refused("an access of three statements", TwinCheck.INDEX, TwinCheck::mixed, l -> l.access(3, 0, is, false));
            TwinCheck.refused("an access of the array 4", TwinCheck.ARGUMENT, TwinCheck::mixed, l -> l.access(0, 4, is, false));
            TwinCheck.refused("an access by nothing", TwinCheck.UNSUPPORTED, cleared, l -> l.access(0, 0, is, false));
            TwinCheck.refused("a second number by nothing", TwinCheck.UNSUPPORTED, cleared, l -> l.access(0, 0, is, true));
            TwinCheck.refused("a second number of no access", TwinCheck.UNSUPPORTED, fullOfZero, l -> l.access(4, 0, is, true));
        }
        TwinCheck.refused("a fourth read", TwinCheck.STATE, fullOfZero, l -> l.access(0, 0, false, false));
        TwinCheck.refused("guard of three statements", TwinCheck.INDEX, TwinCheck::mixed, l -> l.guard(3, 0));
        TwinCheck.refused("guard by i and j of i", TwinCheck.ARGUMENT, TwinCheck::mixed, l -> l.guard(1, 0));
        TwinCheck.refused("guard modulo 1", TwinCheck.ARGUMENT, TwinCheck::mixed, l -> l.guard(0, 1));
        TwinCheck.refused("guard by nothing", TwinCheck.UNSUPPORTED, cleared, l -> l.guard(0, 0));
        TwinCheck.refused("a third guard", TwinCheck.STATE, fullOfZero, l -> l.guard(0, 0));
    }

    private static void promise10Unknown() {
        for (int write = 0; write < 2; write++) {
            for (int count = 0; count <= 3; count++) {
                TwinCheck.Telling telling = reads(count, write == 1);
                for (int access : new int[] {Integer.MIN_VALUE, -1, 0, 1, 2, 3, 4, Integer.MAX_VALUE}) {
                    boolean isThere = access >= 0 && access < count || access == 3 && write == 1;
                    String what = "unknown " + access + " of " + count + " reads and " + write + " writes";
                    if (isThere) {
                        Polyloom loom = TwinCheck.told(telling);
                        PromiseCheck.due(what, false, loom.unknown(0, access, true));
                        PromiseCheck.due(what + " then", true, loom.unknown(0, access, true));
                        PromiseCheck.due(what + " once more", true, loom.unknown(0, access, false));
                        PromiseCheck.due(what + " at last", false, loom.unknown(0, access, false));
                        TwinCheck.alike("behind " + what, telling, loom);
                    } else {
                        TwinCheck.refused(what, TwinCheck.INDEX, telling, l -> l.unknown(0, access, true));
                    }
                }
            }
        }
        for (int statement : new int[] {-1, 3, Integer.MIN_VALUE, Integer.MAX_VALUE}) {
            TwinCheck.refused("unknown of the statement " + statement, TwinCheck.INDEX, TwinCheck::mixed,
                l -> l.unknown(statement, 0, true));
        }
        TwinCheck.refused("unknown of a sixth statement", TwinCheck.INDEX, TwinCheck::full, l -> l.unknown(5, 0, true));
    }

    private static void promise11Reduction() {
        for (int statement : new int[] {-1, 3, Integer.MIN_VALUE, Integer.MAX_VALUE}) {
            TwinCheck.refused("reduction of the statement " + statement, TwinCheck.INDEX, TwinCheck::mixed,
                l -> l.reduction(statement, true));
        }
        TwinCheck.refused("reduction of nothing", TwinCheck.INDEX, TwinCheck::nothing, l -> l.reduction(0, false));
        TwinCheck.refused("reduction of a sixth statement", TwinCheck.INDEX, TwinCheck::full, l -> l.reduction(5, true));
        Polyloom loom = TwinCheck.told(TwinCheck::full);
        PromiseCheck.due("reduction of the fifth", false, loom.reduction(4, true));
        PromiseCheck.due("reduction of the fifth then", true, loom.reduction(4, true));
        PromiseCheck.due("reduction of the fourth", false, loom.reduction(3, false));
        PromiseCheck.due("reduction of the fifth no more", true, loom.reduction(4, false));
        TwinCheck.alike("behind a reduction told and told not", TwinCheck::full, loom);
    }
}
