/** Promises 28 to 39 at their limits, from both sides; and what a refused call leaves behind: nothing. */
public final class OrdersEdgesTest {
    private static final int[] BEYOND_THREE = {-1, 3, Integer.MIN_VALUE, Integer.MAX_VALUE};
    private static final int[] BEYOND_FOUR = {-1, 4, Integer.MIN_VALUE, Integer.MAX_VALUE};

    public static void main(String[] args) {
        promise28Time();
        promise29Visited();
        promise30Pieces();
        promise31Piece();
        promise32Footprint();
        promise33Range();
        promise33FarDistance();
        promise34Layout();
        promise35Range();
        promise35Lines();
        promise35Kept();
        promise36Array();
        promise36Refused();
        promise36Least();
        promise36AtFirst();
        promise37Range();
        promise37Processors();
        promise37Groups();
        promise38Range();
        promise38AtFirst();
        promise38Written();
        promise39IsSame();
        PromiseCheck.end("OrdersEdgesTest");
    }

    private static void empty(Polyloom loom) {
        loom.statement(2);
        PromiseCheck.write(loom, 0, 0, 1);
        loom.parameter(0);
    }

    private static void promise28Time() {
        TwinCheck.asked("time of the first", 0, TwinCheck::stencil, l -> l.time(0, 0));
        TwinCheck.asked("time of the last", 8, TwinCheck::stencil, l -> l.time(0, 8));
        TwinCheck.asked("time of the last, backwards", 2, TwinCheck::backwards, l -> l.time(0, 8));
        for (int index : new int[] {-1, 9, Integer.MIN_VALUE, Integer.MAX_VALUE}) {
            TwinCheck.refused("time of " + index + " of 9", TwinCheck.ELEMENT, TwinCheck::stencil, l -> l.time(0, index));
            TwinCheck.refused("time of " + index + " of no statement", TwinCheck.INDEX, TwinCheck::stencil, l -> l.time(1, index));
            TwinCheck.refused("time of " + index + " of too many", TwinCheck.STATE, TwinCheck::crowded, l -> l.time(0, index));
        }
        for (int statement : BEYOND_THREE) {
            TwinCheck.refused("time of the statement " + statement, TwinCheck.INDEX, TwinCheck::mixed, l -> l.time(statement, 0));
            TwinCheck.refused("time of " + statement + " of too many", TwinCheck.INDEX, TwinCheck::crowded, l -> l.time(statement, 0));
        }
        TwinCheck.refused("time of the statement 1 of 1, of too many", TwinCheck.INDEX, TwinCheck::crowded, l -> l.time(1, 0));
        TwinCheck.refused("time of no points", TwinCheck.ELEMENT, OrdersEdgesTest::empty, l -> l.time(0, 0));
        TwinCheck.refused("time of nothing", TwinCheck.INDEX, TwinCheck::nothing, l -> l.time(0, 0));
        TwinCheck.refused("time of too many numbers, but no points", TwinCheck.STATE, TwinCheck::crowdedWithoutPoints, l -> l.time(0, 0));
    }

    private static void promise29Visited() {
        int[] first = {1, 1, 0, 0};
        int[] last = {3, 3, 0, 0};
        for (int iterator = 0; iterator < 4; iterator++) {
            int x = iterator;
            TwinCheck.asked("visited first, " + x, first[x], TwinCheck::stencil, l -> l.visited(0, x));
            TwinCheck.asked("visited last, " + x, last[x], TwinCheck::stencil, l -> l.visited(8, x));
        }
        for (int time : new int[] {-1, 9, Integer.MIN_VALUE, Integer.MAX_VALUE}) {
            TwinCheck.refused("visited at " + time, TwinCheck.ELEMENT, TwinCheck::stencil, l -> l.visited(time, 0));
            TwinCheck.refused("visited at " + time + " of too many", TwinCheck.STATE, TwinCheck::crowded, l -> l.visited(time, 0));
        }
        for (int iterator : BEYOND_FOUR) {
            TwinCheck.refused("visited of " + iterator, TwinCheck.ARGUMENT, TwinCheck::stencil, l -> l.visited(0, iterator));
            TwinCheck.refused("visited of " + iterator + " at none", TwinCheck.ARGUMENT, TwinCheck::stencil, l -> l.visited(9, iterator));
            TwinCheck.refused("visited of " + iterator + " of too many", TwinCheck.ARGUMENT, TwinCheck::crowded, l -> l.visited(0, iterator));
            TwinCheck.refused("visited of " + iterator + " of nothing", TwinCheck.ARGUMENT, TwinCheck::nothing, l -> l.visited(0, iterator));
        }
        TwinCheck.refused("visited of nothing", TwinCheck.ELEMENT, TwinCheck::nothing, l -> l.visited(0, 3));
        TwinCheck.refused("visited of no points", TwinCheck.ELEMENT, OrdersEdgesTest::empty, l -> l.visited(0, 3));
        TwinCheck.refused("visited of too many numbers, but no points", TwinCheck.STATE, TwinCheck::crowdedWithoutPoints, l -> l.visited(0, 0));
    }

    /** Statements of one iterator each, from and to what is told by twos. */
    private static TwinCheck.Telling spans(int... of) {
        return l -> {
            for (int s = 0; s < of.length / 2; s++) {
                l.statement(1);
                PromiseCheck.range(l, s, 0, of[2 * s], of[2 * s + 1]);
            }
        };
    }

    private static void promise30Pieces() {
        TwinCheck.asked("pieces of nothing", 0, TwinCheck::nothing, l -> l.pieces());
        TwinCheck.asked("pieces of no points", 0, OrdersEdgesTest::empty, l -> l.pieces());
        TwinCheck.refused("pieces of too many", TwinCheck.STATE, TwinCheck::crowded, l -> l.pieces());
        TwinCheck.asked("pieces of one point", 1, spans(7, 7), l -> l.pieces());
        TwinCheck.asked("pieces of two numbers", 1, spans(-1, 0), l -> l.pieces());
        TwinCheck.asked("pieces side by side, of two statements", 2, spans(0, 3, 4, 6), l -> l.pieces());
        TwinCheck.asked("pieces that share a number", 3, spans(0, 3, 3, 6), l -> l.pieces());
        TwinCheck.asked("pieces of the same numbers", 1, spans(0, 3, 0, 3), l -> l.pieces());
        TwinCheck.asked("pieces of one in the other", 3, spans(0, 9, 3, 6), l -> l.pieces());
        TwinCheck.asked("pieces of five statements", 5, spans(0, 0, 0, 1, 0, 2, 0, 3, 0, 4), l -> l.pieces());
        TwinCheck.Telling apart = l -> {
            spans(-6, 6).tell(l);
            PromiseCheck.type(l, 1);
            l.guard(0, 2);
        };
        TwinCheck.asked("pieces of numbers that are 2 apart", 7, apart, l -> l.pieces());
        TwinCheck.asked("their points by tiles of 2", 7, apart, l -> {
            l.script('t', 0, 2, 0);
            int points = l.piece(0, 'n') * l.pieces();
            l.reset();
            return points;
        });
    }

    private static void promise31Piece() {
        TwinCheck.Telling three = spans(0, 3, 3, 6, -20, -19);
        int[][] due = {{-20, -19, 4, 2}, {0, 2, 1, 3}, {3, 3, 3, 2}, {4, 6, 2, 3}};
        for (int index = 0; index < 4; index++) {
            for (int thing = 0; thing < 4; thing++) {
                int x = index;
                char what = "lgsn".charAt(thing);
                TwinCheck.asked("piece " + x + " " + what, due[x][thing], three, l -> l.piece(x, what));
            }
        }
        for (int index : BEYOND_FOUR) {
            TwinCheck.refused("piece " + index + " of 4", TwinCheck.ELEMENT, three, l -> l.piece(index, 'l'));
            TwinCheck.refused("piece " + index + " of 4, z", TwinCheck.ARGUMENT, three, l -> l.piece(index, 'z'));
            TwinCheck.refused("piece " + index + " of too many", TwinCheck.STATE, TwinCheck::crowded, l -> l.piece(index, 'l'));
        }
        Polyloom loom = TwinCheck.told(three);
        for (char what = 0; what < 300; what++) {
            char w = what;
            if ("lgsn".indexOf(what) < 0) {
                PromiseCheck.refused("piece 0 " + (int) what, TwinCheck.ARGUMENT, () -> loom.piece(0, w));
            }
        }
        for (char what : "\0kmfhrtoLGSN\uffff".toCharArray()) {
            TwinCheck.refused("piece 0 " + (int) what, TwinCheck.ARGUMENT, three, l -> l.piece(0, what));
            TwinCheck.refused("piece 0 " + (int) what + " of too many", TwinCheck.ARGUMENT, TwinCheck::crowded, l -> l.piece(0, what));
        }
        TwinCheck.refused("piece of nothing", TwinCheck.ELEMENT, TwinCheck::nothing, l -> l.piece(0, 'n'));
        TwinCheck.refused("piece of no points", TwinCheck.ELEMENT, OrdersEdgesTest::empty, l -> l.piece(0, 'n'));
        TwinCheck.refused("piece of too many numbers, but no points", TwinCheck.STATE, TwinCheck::crowdedWithoutPoints, l -> l.piece(0, 'n'));
        TwinCheck.asked("statements of five", 31, spans(2, 2, 2, 2, 2, 2, 2, 2, 2, 2), l -> l.piece(0, 's'));
        TwinCheck.asked("the fifth alone", 16, spans(2, 2, 2, 2, 2, 2, 2, 2, 1, 1), l -> l.piece(0, 's'));
    }

    private static void promise32Footprint() {
        for (int row : BEYOND_THREE) {
            TwinCheck.refused("footprint of the row " + row, TwinCheck.ARGUMENT, TwinCheck::stencil, l -> l.footprint(row, 0));
            TwinCheck.refused("footprint of the row " + row + " of too many", TwinCheck.ARGUMENT, TwinCheck::crowded, l -> l.footprint(row, 0));
            TwinCheck.refused("footprint of the row " + row + " of nothing", TwinCheck.ARGUMENT, TwinCheck::nothing, l -> l.footprint(row, 0));
        }
        TwinCheck.refused("footprint of the row 4 of 4", TwinCheck.ARGUMENT, TwinCheck::mixed, l -> l.footprint(4, 0));
        TwinCheck.refused("footprint of too many", TwinCheck.STATE, TwinCheck::crowded, l -> l.footprint(2, 0));
        int[][] due = {{Integer.MIN_VALUE, 0}, {0, 0}, {1, 7}, {3, 7}, {4, 0}, {Integer.MAX_VALUE, 0}};
        for (int[] x : due) {
            TwinCheck.asked("footprint of " + x[0], x[1], TwinCheck::stencil, l -> l.footprint(0, x[0]));
        }
        TwinCheck.asked("footprint of all", 15, TwinCheck::stencil, l -> l.footprint(2, 0));
        TwinCheck.asked("footprint of nothing", 0, TwinCheck::nothing, l -> l.footprint(2, 0));
        TwinCheck.asked("footprint without accesses", 0, l -> l.statement(3), l -> l.footprint(0, 0));
    }

    private static void promise33Range() {
        for (int distance : new int[] {-1, 5001, Integer.MIN_VALUE, Integer.MAX_VALUE}) {
            TwinCheck.refused("reuse(" + distance + ")", TwinCheck.ARGUMENT, TwinCheck::stencil, l -> l.reuse(distance));
            TwinCheck.refused("reuse(" + distance + ") of too many", TwinCheck.ARGUMENT, TwinCheck::crowded, l -> l.reuse(distance));
        }
        TwinCheck.refused("reuse(0) of too many", TwinCheck.STATE, TwinCheck::crowded, l -> l.reuse(0));
        TwinCheck.refused("reuse(5000) of too many", TwinCheck.STATE, TwinCheck::crowded, l -> l.reuse(5000));
        TwinCheck.asked("reuse of nothing", 0, TwinCheck::nothing, l -> l.reuse(0));
        TwinCheck.asked("reuse(5000) of nothing", 0, TwinCheck::nothing, l -> l.reuse(5000));
        // The points 0 to 3 touch a, b, a; then c, b, c and so on: distances 1 and 2.
        TwinCheck.Telling two = l -> {
            l.statement(1);
            PromiseCheck.read(l, 0, 0, 1);
            PromiseCheck.read(l, 0, 1, 0);
            PromiseCheck.write(l, 0, 0, 1);
        };
        TwinCheck.asked("reuse(0)", 0, two, l -> l.reuse(0));
        TwinCheck.asked("reuse(1)", 4, two, l -> l.reuse(1));
        TwinCheck.asked("reuse(2)", 7, two, l -> l.reuse(2));
        TwinCheck.asked("reuse(3)", 7, two, l -> l.reuse(3));
    }

    /** One cell, 1250 points that touch four cells each, none of them twice, so many more cells, and the one cell again. */
    private static Polyloom farApart(int more) {
        Polyloom loom = new Polyloom();
        loom.statement(1);
        PromiseCheck.range(loom, 0, 0, 0, 0);
        PromiseCheck.read(loom, 0, 0, 0, 0, 0, 0, -20);
        loom.statement(3);
        PromiseCheck.range(loom, 1, 0, 0, 9);
        PromiseCheck.range(loom, 1, 1, 0, 4);
        PromiseCheck.type(loom, 0, 0, 0, 5, 4);
        loom.bound(1, 2, false);
        for (int array = 0; array < 4; array++) {
            PromiseCheck.type(loom, 1, 10);
            loom.access(1, array, array == 3, false);
            PromiseCheck.second(loom, 1, 0, 0, 1);
        }
        loom.statement(1);
        PromiseCheck.range(loom, 2, 0, 1, more);
        PromiseCheck.read(loom, 2, 1, 1);
        PromiseCheck.second(loom, 2, 0, 0, 0, 0, -20);
        loom.statement(1);
        PromiseCheck.range(loom, 3, 0, 0, 0);
        PromiseCheck.read(loom, 3, 0, 0, 0, 0, 0, -20);
        loom.script('n', 0, 0, 0);
        return loom;
    }

    private static void promise33FarDistance() {
        for (int more = 0; more <= 1; more++) {
            Polyloom loom = farApart(more);
            PromiseCheck.due("points of four cells", 1250, loom.count(1));
            PromiseCheck.due("the distance of 5000 and " + more, 5000.0 + more, loom.meanReuse());
            PromiseCheck.due("reuse(4999) of 5000 and " + more, 0, loom.reuse(4999));
            PromiseCheck.due("reuse(5000) of 5000 and " + more, 1 - more, loom.reuse(5000));
        }
    }

    private static void promise34Layout() {
        for (int array = 0; array < 4; array++) {
            Polyloom loom = TwinCheck.told(TwinCheck::stencil);
            PromiseCheck.due("layout of " + array, false, loom.layout(array, true));
            PromiseCheck.due("layout of " + array + " then", true, loom.layout(array, true));
            for (int other = 0; other < 4; other++) {
                PromiseCheck.due("layout of " + other, other == array, loom.layout(other, false));
            }
            PromiseCheck.due("layout of " + array + " at last", false, loom.layout(array, false));
            TwinCheck.alike("behind layouts", TwinCheck::stencil, loom);
        }
        for (int array : BEYOND_FOUR) {
            TwinCheck.refused("layout of " + array, TwinCheck.INDEX, TwinCheck::mixed, l -> l.layout(array, true));
            TwinCheck.refused("layout of " + array + " of too many", TwinCheck.INDEX, TwinCheck::crowded, l -> l.layout(array, true));
            TwinCheck.refused("layout of " + array + " of nothing", TwinCheck.INDEX, TwinCheck::nothing, l -> l.layout(array, false));
        }
    }

    private static void promise35Range() {
        for (int number : new int[] {-1, 0, Integer.MIN_VALUE, Integer.MAX_VALUE}) {
            TwinCheck.refused("misses(" + number + ", 1)", TwinCheck.ARGUMENT, TwinCheck::stencil, l -> l.misses(number, 1));
            TwinCheck.refused("misses(1, " + number + ")", TwinCheck.ARGUMENT, TwinCheck::stencil, l -> l.misses(1, number));
            TwinCheck.refused("misses(" + number + ", 1) of too many", TwinCheck.ARGUMENT, TwinCheck::crowded, l -> l.misses(number, 1));
            TwinCheck.refused("misses(1, " + number + ") of too many", TwinCheck.ARGUMENT, TwinCheck::crowded, l -> l.misses(1, number));
        }
        TwinCheck.refused("misses(17, 1)", TwinCheck.ARGUMENT, TwinCheck::stencil, l -> l.misses(17, 1));
        TwinCheck.refused("misses(1, 65)", TwinCheck.ARGUMENT, TwinCheck::stencil, l -> l.misses(1, 65));
        TwinCheck.refused("misses(17, 64) of too many", TwinCheck.ARGUMENT, TwinCheck::crowded, l -> l.misses(17, 64));
        TwinCheck.refused("misses(16, 65) of too many", TwinCheck.ARGUMENT, TwinCheck::crowded, l -> l.misses(16, 65));
        TwinCheck.refused("misses(16, 64) of too many", TwinCheck.STATE, TwinCheck::crowded, l -> l.misses(16, 64));
        TwinCheck.asked("misses(1, 1) of nothing", 0, TwinCheck::nothing, l -> l.misses(1, 1));
        TwinCheck.asked("misses(16, 64) of nothing", 0, TwinCheck::nothing, l -> l.misses(16, 64));
        TwinCheck.asked("misses(1, 64) of the stencil", 15, TwinCheck::stencil, l -> l.misses(1, 64));
        TwinCheck.asked("misses(16, 64) of the stencil", 4, TwinCheck::stencil, l -> l.misses(16, 64));
    }

    /** The second numbers -17 to 16 stand in lines of so many cells, of which one begins at 0. */
    private static void promise35Lines() {
        for (int turn = 0; turn < 2; turn++) {
            Polyloom loom = new Polyloom();
            loom.statement(1);
            PromiseCheck.range(loom, 0, 0, -17, 16);
            if (turn == 0) {
                PromiseCheck.write(loom, 0, 3, 0);
                PromiseCheck.second(loom, 0, 1);
            } else {
                PromiseCheck.write(loom, 0, 3, 1);
                loom.layout(3, true);
            }
            for (int wide = 1; wide <= 16; wide++) {
                int due = 16 / wide - Math.floorDiv(-17, wide) + 1;
                PromiseCheck.due("misses in lines of " + wide + ", turn " + turn, due, loom.misses(wide, 1));
            }
            loom.layout(3, turn == 0);
            PromiseCheck.due("misses along the other number, turn " + turn, 34, loom.misses(16, 64));
        }
        // Lines of other arrays and of other first numbers are other lines.
        Polyloom loom = new Polyloom();
        loom.statement(1);
        loom.parameter(2);
        for (int array = 0; array < 4; array++) {
            PromiseCheck.type(loom, 1);
            loom.access(0, array, array == 3, false);
        }
        PromiseCheck.due("misses of 4 arrays and 2 first numbers", 8, loom.misses(16, 64));
    }

    private static void promise35Kept() {
        // a, b, c and again: with 3 lines all stay, with 2 none does; a, b, a: the line touched last stays.
        for (int cells = 1; cells <= 4; cells++) {
            Polyloom loom = new Polyloom();
            loom.statement(2);
            PromiseCheck.range(loom, 0, 0, 0, 9);
            PromiseCheck.range(loom, 0, 1, 0, cells - 1);
            PromiseCheck.read(loom, 0, 0, 0, 1);
            for (int lines = 1; lines <= 5; lines++) {
                PromiseCheck.due("misses of " + cells + " cells, " + lines + " lines", cells <= lines ? cells : 10 * cells,
                    loom.misses(1, lines));
            }
        }
        Polyloom hot = new Polyloom();
        hot.statement(1);
        hot.parameter(10);
        PromiseCheck.read(hot, 0, 0, 0);
        PromiseCheck.read(hot, 0, 1, 1);
        PromiseCheck.due("misses with a line that is touched each time", 11, hot.misses(1, 2));
        PromiseCheck.due("misses with one line", 20, hot.misses(1, 1));
        PromiseCheck.write(hot, 0, 0, 0);
        PromiseCheck.due("misses with a write of it, too, and one line", 21, hot.misses(1, 1));
    }

    private static void promise36Array() {
        for (int array : BEYOND_FOUR) {
            TwinCheck.refused("storage of " + array, TwinCheck.INDEX, TwinCheck::stencil, l -> l.storage(array));
            TwinCheck.refused("storage of " + array + " of too many", TwinCheck.INDEX, TwinCheck::crowded, l -> l.storage(array));
            TwinCheck.refused("storage of " + array + " backwards", TwinCheck.INDEX, TwinCheck::backwards, l -> l.storage(array));
        }
        for (int array = 0; array < 4; array++) {
            int a = array;
            TwinCheck.asked("storage of " + array + " of nothing", 1, TwinCheck::nothing, l -> l.storage(a));
            TwinCheck.refused("storage of " + array + " backwards", TwinCheck.ELEMENT, TwinCheck::backwards, l -> l.storage(a));
            TwinCheck.refused("storage of " + array + " of too many", TwinCheck.STATE, TwinCheck::crowded, l -> l.storage(a));
            TwinCheck.refused("storage of " + array + " of too many numbers, but no points", TwinCheck.STATE,
                TwinCheck::crowdedWithoutPoints, l -> l.storage(a));
        }
    }

    /** Two statements write a cell each: of i, the parameter and 1 so many times, first and second; a third reads both. */
    private static Polyloom apart(int parameter, int[] first, int[] second) {
        return TwinCheck.told(l -> tellApart(l, parameter, first, second));
    }

    private static void tellApart(Polyloom loom, int parameter, int[] first, int[] second) {
        loom.parameter(parameter);
        for (int s = 0; s < 3; s++) {
            loom.statement(1);
            PromiseCheck.range(loom, s, 0, 20, 20);
        }
        int[][] of = {first, second};
        for (int s = 0; s < 2; s++) {
            PromiseCheck.write(loom, s, 0, of[s][0], 0, 0, of[s][1], of[s][2]);
            PromiseCheck.second(loom, s, of[s][3], 0, 0, of[s][4], of[s][5]);
            PromiseCheck.read(loom, 2, 0, of[s][0], 0, 0, of[s][1], of[s][2]);
            PromiseCheck.second(loom, 2, of[s][3], 0, 0, of[s][4], of[s][5]);
        }
    }

    private static void promise36Refused() {
        // (0, 100) and (1, 0) have one number; (0, 101) and (1, 0) are 1 apart.
        TwinCheck.Telling same = l -> tellApart(l, 5, new int[] {0, 0, 0, 0, 20, 0}, new int[] {0, 0, 1, 0, 0, 0});
        TwinCheck.refused("storage of two cells of one number", TwinCheck.ELEMENT, same, l -> l.storage(0));
        TwinCheck.asked("storage of another array", 1, same, l -> l.storage(1));
        Polyloom next = apart(5, new int[] {0, 0, 0, 0, 20, 1}, new int[] {0, 0, 1, 0, 0, 0});
        PromiseCheck.due("storage of two cells that are 1 apart", 2, next.storage(0));
    }

    private static void promise36Least() {
        // The least modulus that does not divide the gap between two cells that are both needed: 2 for odd gaps.
        int[][] due = {{1, 2}, {2, 3}, {3, 2}, {4, 3}, {6, 4}, {12, 5}, {-6, 4}, {-12, 5}};
        for (int[] x : due) {
            Polyloom loom = apart(4, new int[] {0, 0, 0, 0, 0, 0}, new int[] {0, 0, 0, 0, 0, x[0]});
            PromiseCheck.due("storage of two cells that are " + x[0] + " apart", x[1], loom.storage(0));
        }
        // At i = 20 the other cell is (24, 120) or (-24, -120): 2520 is divided by 1 to 10.
        Polyloom wide = apart(21, new int[] {0, 0, 0, 0, 0, 0}, new int[] {1, 0, 4, 6, 0, 0});
        PromiseCheck.due("storage of two cells that are 2520 apart", 11, wide.storage(0));
        Polyloom below = apart(21, new int[] {0, 0, 0, 0, 0, 0}, new int[] {-1, 0, -4, -6, 0, 0});
        PromiseCheck.due("storage of two cells that are 2520 apart, below 0", 11, below.storage(0));
    }

    /** What was not written is kept for itself; what is written behind its last read is in nobody's way. */
    private static void promise36AtFirst() {
        Polyloom loom = new Polyloom();
        loom.statement(1);
        PromiseCheck.read(loom, 0, 0, 1, 0, 0, 0, 1);
        PromiseCheck.write(loom, 0, 0, 1);
        PromiseCheck.due("storage of (i) out of (i + 1), not written yet", 1, loom.storage(0));
        loom.statement(1);
        PromiseCheck.range(loom, 1, 0, 3, 3);
        PromiseCheck.read(loom, 1, 0, 1);
        PromiseCheck.due("storage with the last one read then", 1, loom.storage(0));
        PromiseCheck.read(loom, 1, 0, 1, 0, 0, 0, -1);
        PromiseCheck.due("storage with the last two read then", 3, loom.storage(0));
        PromiseCheck.read(loom, 1, 0, 0, 0, 0, 0, 20);
        PromiseCheck.due("storage with one read that was never written", 3, loom.storage(0));
    }

    private static void promise37Range() {
        for (int row : BEYOND_THREE) {
            TwinCheck.refused("messages by the row " + row, TwinCheck.ARGUMENT, TwinCheck::stencil, l -> l.messages(row, 2));
            TwinCheck.refused("messages by the row " + row + " of too many", TwinCheck.ARGUMENT, TwinCheck::crowded, l -> l.messages(row, 2));
            TwinCheck.refused("messages by the row " + row + " of nothing", TwinCheck.ARGUMENT, TwinCheck::nothing, l -> l.messages(row, 2));
        }
        TwinCheck.refused("messages by the row 4 of 4", TwinCheck.ARGUMENT, TwinCheck::mixed, l -> l.messages(4, 2));
        for (int processors : new int[] {-1, 0, 17, Integer.MIN_VALUE, Integer.MAX_VALUE}) {
            TwinCheck.refused("messages of " + processors, TwinCheck.ARGUMENT, TwinCheck::stencil, l -> l.messages(0, processors));
            TwinCheck.refused("messages of " + processors + " of too many", TwinCheck.ARGUMENT, TwinCheck::crowded, l -> l.messages(0, processors));
        }
        TwinCheck.refused("messages of too many", TwinCheck.STATE, TwinCheck::crowded, l -> l.messages(2, 16));
        TwinCheck.asked("messages of 1", 0, TwinCheck::stencil, l -> l.messages(0, 1));
        TwinCheck.asked("messages of 2", 2, TwinCheck::stencil, l -> l.messages(0, 2));
        TwinCheck.asked("messages of 16", 2, TwinCheck::stencil, l -> l.messages(0, 16));
        TwinCheck.asked("messages of nothing", 0, TwinCheck::nothing, l -> l.messages(2, 16));
    }

    /** What is written at -20 to 20 is read one further: each processor sends to the next one, below 0 too. */
    private static void promise37Processors() {
        for (int processors = 1; processors <= 16; processors++) {
            Polyloom loom = new Polyloom();
            loom.statement(1);
            PromiseCheck.range(loom, 0, 0, -20, 20);
            PromiseCheck.write(loom, 0, 0, 1);
            PromiseCheck.read(loom, 0, 0, 1, 0, 0, 0, -1);
            PromiseCheck.due("messages to the next one of " + processors, processors == 1 ? 0 : processors, loom.messages(0, processors));
            PromiseCheck.due("messages by a row of 0", 0, loom.messages(1, processors));
        }
        // From -1 to 15: alike for 16 processors, and for 2, 4 and 8; not so for 15.
        Polyloom far = new Polyloom();
        far.statement(1);
        far.statement(1);
        PromiseCheck.range(far, 0, 0, -1, -1);
        PromiseCheck.range(far, 1, 0, 15, 15);
        PromiseCheck.write(far, 0, 0, 0);
        PromiseCheck.read(far, 1, 0, 0);
        for (int processors = 1; processors <= 16; processors++) {
            PromiseCheck.due("messages from -1 to 15 of " + processors, 16 % processors == 0 ? 0 : 1, far.messages(0, processors));
        }
    }

    /** One for each number of the row ahead, of the earlier point; for all together by the first row. */
    private static void promise37Groups() {
        Polyloom loom = new Polyloom();
        loom.statement(2);
        loom.statement(2);
        PromiseCheck.write(loom, 0, 0, 1);
        PromiseCheck.second(loom, 0, 0, 1);
        PromiseCheck.read(loom, 1, 0, 0, 0, 0, 1, -1);
        PromiseCheck.second(loom, 1, 0, 1, 0, 0, -1);
        // (3, j) is read at each (i, j + 1): from j to j + 1, for the earlier points' i of 3 alone.
        PromiseCheck.due("f", 12, loom.needs('f'));
        PromiseCheck.due("messages by j, for each i", 3, loom.messages(1, 16));
        PromiseCheck.due("messages by i", 3, loom.messages(0, 16));
        loom.script('x', 0, 1, 0);
        PromiseCheck.due("messages by j", 3, loom.messages(0, 16));
        PromiseCheck.due("messages by i, for each j", 9, loom.messages(1, 16));
        // By i modulo 2, for each j: from even to odd and from odd to even ones, wherever the points of a j come first.
        Polyloom turns = new Polyloom();
        turns.statement(2);
        PromiseCheck.write(turns, 0, 0, 1);
        PromiseCheck.second(turns, 0, 0, 1);
        PromiseCheck.read(turns, 0, 0, 1, 0, 0, 0, -1);
        PromiseCheck.second(turns, 0, 0, 1);
        turns.script('x', 0, 1, 0);
        PromiseCheck.due("messages by i modulo 2, for each j", 8, turns.messages(1, 2));
        PromiseCheck.due("messages by i modulo 3, for each j", 12, turns.messages(1, 3));
        PromiseCheck.due("messages by j modulo 2", 0, turns.messages(0, 2));
        turns.script('x', 0, 2, 0);
        PromiseCheck.due("messages by i modulo 2 behind a row of 0", 2, turns.messages(1, 2));
        // An a or an o sends nothing.
        Polyloom none = new Polyloom();
        none.statement(1);
        none.statement(1);
        PromiseCheck.read(none, 0, 0, 1, 0, 0, 0, 1);
        PromiseCheck.write(none, 1, 0, 1);
        PromiseCheck.due("a", 3, none.needs('a'));
        PromiseCheck.due("f of them", 0, none.needs('f'));
        PromiseCheck.due("messages of a", 0, none.messages(0, 16));
    }

    private static void promise38Range() {
        for (int array : BEYOND_FOUR) {
            TwinCheck.refused("cell of " + array, TwinCheck.INDEX, TwinCheck::stencil, l -> l.cell(array, 0, 0, true));
            TwinCheck.refused("cell (501, 0) of " + array, TwinCheck.INDEX, TwinCheck::stencil, l -> l.cell(array, 501, 0, true));
            TwinCheck.refused("cell of " + array + " of too many", TwinCheck.INDEX, TwinCheck::crowded, l -> l.cell(array, 0, 0, true));
        }
        for (int number : new int[] {-501, 501, Integer.MIN_VALUE, Integer.MAX_VALUE}) {
            TwinCheck.refused("cell (" + number + ", 0)", TwinCheck.ARGUMENT, TwinCheck::stencil, l -> l.cell(0, number, 0, true));
            TwinCheck.refused("cell (0, " + number + ")", TwinCheck.ARGUMENT, TwinCheck::stencil, l -> l.cell(0, 0, number, false));
            TwinCheck.refused("cell (" + number + ", 0) of too many", TwinCheck.ARGUMENT, TwinCheck::crowded, l -> l.cell(0, number, 0, true));
            TwinCheck.refused("cell (0, " + number + ") of too many", TwinCheck.ARGUMENT, TwinCheck::crowded, l -> l.cell(3, 0, number, true));
        }
        for (int number : new int[] {-500, 500}) {
            TwinCheck.refused("cell (" + number + ", 0) of too many", TwinCheck.STATE, TwinCheck::crowded, l -> l.cell(3, number, 0, true));
            TwinCheck.refused("cell (0, " + number + ") of too many", TwinCheck.STATE, TwinCheck::crowded, l -> l.cell(3, 0, number, false));
        }
    }

    /** Its number, 7 times the array more, modulo 1009, from 0 on. */
    private static void promise38AtFirst() {
        int[][] due = {{0, 0, 0, 0}, {1, 0, 0, 7}, {3, 0, 0, 21}, {0, 0, -1, 1008}, {0, 10, 8, 1008}, {0, 10, 9, 0}, {0, 0, -500, 509},
            {0, 0, 500, 500}, {1, 10, 1, 1008}, {1, 10, 2, 0}, {3, 0, -21, 0}, {3, 0, -22, 1008}, {0, -500, -500, 959}, {3, 500, 500, 71},
            {2, 500, -500, 73}, {2, -500, 500, 964}, {0, -10, -9, 0}, {0, -10, -10, 1008}, {0, -10, -8, 1}};
        for (int[] x : due) {
            String of = " (" + x[1] + ", " + x[2] + ") of " + x[0];
            TwinCheck.asked("cell" + of, x[3], TwinCheck::nothing, l -> l.cell(x[0], x[1], x[2], true));
            TwinCheck.asked("cell in the first order" + of, x[3], TwinCheck::nothing, l -> l.cell(x[0], x[1], x[2], false));
        }
    }

    /** Written cells at 500 and -500 are told, those at 501 are there, but cannot be asked for; 10006 and 0 are written. */
    private static void promise38Written() {
        Polyloom loom = new Polyloom();
        loom.statement(1);
        PromiseCheck.range(loom, 0, 0, -1, 1);
        loom.parameter(25);
        PromiseCheck.write(loom, 0, 0, 20, 0, 0, 20, -20);
        PromiseCheck.second(loom, 0, -20, 0, 0, -20, 20);
        PromiseCheck.due("the cell (480, -480)", 1, loom.cell(0, 480, -480, true));
        PromiseCheck.due("the cell (500, -500)", 1, loom.cell(0, 500, -500, true));
        PromiseCheck.due("the cell (500, -499), not written", Math.floorMod(50000 - 499, 1009), loom.cell(0, 500, -499, true));
        PromiseCheck.refused("the cell (520, -520)", TwinCheck.ARGUMENT, () -> loom.cell(0, 520, -520, true));
        PromiseCheck.due("cells written", 3, loom.misses(1, 64));
        moduloTenThousand();
    }

    /** Sums of 5 times 10007 and of 10 times 10007, and of one less: modulo 10007 they are 0 and 10006. */
    private static void moduloTenThousand() {
        Polyloom zero = new Polyloom();
        zero.statement(1);
        PromiseCheck.write(zero, 0, 3, 0);
        PromiseCheck.read(zero, 0, 0, 0);
        PromiseCheck.read(zero, 0, 0, 0, 0, 0, 0, 8);
        PromiseCheck.second(zero, 0, 0, 0, 0, 0, 7);
        PromiseCheck.due("31 times 2 times 807, and 1", 0, zero.cell(3, 0, 0, true));
        Polyloom most = new Polyloom();
        most.statement(1);
        PromiseCheck.write(most, 0, 3, 0);
        PromiseCheck.read(most, 0, 0, 0, 0, 0, 0, 2);
        PromiseCheck.second(most, 0, 0, 0, 0, 0, 4);
        PromiseCheck.read(most, 0, 0, 0);
        PromiseCheck.read(most, 0, 0, 0, 0, 0, 0, 10);
        PromiseCheck.second(most, 0, 0, 0, 0, 0, 8);
        PromiseCheck.due("31 times 204 and 3 times 1008, and 1", 10006, most.cell(3, 0, 0, true));
        reductionModulo();
    }

    /** A cell that 10 points of a reduction make 1000 more each: 3 times 333, and 1. */
    private static void reductionModulo() {
        for (int begin = 5; begin <= 8; begin++) {
            Polyloom loom = new Polyloom();
            loom.statement(1);
            loom.parameter(10);
            PromiseCheck.read(loom, 0, 0, 0);
            PromiseCheck.second(loom, 0, 0, 0, 0, 0, begin);
            PromiseCheck.write(loom, 0, 0, 0);
            PromiseCheck.second(loom, 0, 0, 0, 0, 0, begin);
            PromiseCheck.read(loom, 0, 0, 0, 0, 0, 0, 3);
            PromiseCheck.second(loom, 0, 0, 0, 0, 2, 13);
            loom.reduction(0, true);
            PromiseCheck.due("the sum of " + begin + " and 10000", (begin + 10000) % 10007, loom.cell(0, 0, begin, true));
        }
    }

    private static void promise39IsSame() {
        TwinCheck.asked("isSame of nothing", true, TwinCheck::nothing, l -> l.isSame());
        TwinCheck.asked("isSame of no points", true, OrdersEdgesTest::empty, l -> l.isSame());
        TwinCheck.asked("isSame of the stencil", true, TwinCheck::stencil, l -> l.isSame());
        TwinCheck.asked("isSame backwards", false, TwinCheck::backwards, l -> l.isSame());
        TwinCheck.refused("isSame of too many", TwinCheck.STATE, TwinCheck::crowded, l -> l.isSame());
        // Two writers of one cell, the other way round: not the same, but for equal values.
        Polyloom two = new Polyloom();
        two.statement(1);
        two.statement(1);
        two.parameter(1);
        PromiseCheck.write(two, 0, 0, 0);
        PromiseCheck.write(two, 1, 0, 0);
        PromiseCheck.due("isSame of two writers", true, two.isSame());
        two.script('c', 0, 0, 1);
        PromiseCheck.due("isSame of two writers, the other way round", false, two.isSame());
        PromiseCheck.due("the cell in the first order", 2, two.cell(0, 0, 0, false));
        PromiseCheck.due("the cell in the visited order", 1, two.cell(0, 0, 0, true));
        PromiseCheck.write(two, 0, 1, 0);
        PromiseCheck.due("isSame of writers of two cells", true, two.isSame());
    }
}
