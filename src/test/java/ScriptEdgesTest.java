/** Promises 18 to 21 at their limits, from both sides; and what a refused call leaves behind: nothing. */
public final class ScriptEdgesTest {
    public static void main(String[] args) {
        promise18Step();
        promise18RowsOfThree();
        promise18RowsOfFourAndOne();
        promise18Numbers();
        promise18WithoutMeaning();
        promise18Divided();
        promise18OnlyRow();
        promise18Beyond();
        promise18BeyondByS();
        promise18Full();
        promise18Order();
        promise18Without();
        promise19Reset();
        promise20Rows();
        promise21Row();
        roundedDown();
        PromiseCheck.end("ScriptEdgesTest");
    }

    private static void refused(String what, Class<? extends RuntimeException> want, TwinCheck.Telling telling,
            char step, int a, int b, int c) {
        TwinCheck.refused("script " + step + " " + a + " " + b + " " + c + what, want, telling, l -> l.script(step, a, b, c));
    }

    private static void taken(String what, int want, TwinCheck.Telling telling, char step, int a, int b, int c) {
        Polyloom loom = TwinCheck.told(telling);
        String call = "script " + step + " " + a + " " + b + " " + c + what;
        PromiseCheck.due(call, want, loom.script(step, a, b, c));
        PromiseCheck.due("rows behind " + call, want, loom.rows());
    }

    private static void one(Polyloom loom) {
        TwinCheck.stencil(loom);
        loom.script('d', 2, 0, 0);
        loom.script('d', 1, 0, 0);
        PromiseCheck.type(loom, 1, 0, 3);
    }

    /** Four rows, of which the first is divided. */
    private static void tiled(Polyloom loom) {
        TwinCheck.stencil(loom);
        loom.script('t', 0, 2, 0);
    }

    /** Three rows, of which the second is divided. */
    private static void tiledThree(Polyloom loom) {
        TwinCheck.stencil(loom);
        loom.script('d', 2, 0, 0);
        loom.script('t', 1, 2, 0);
    }

    private static void promise18Step() {
        Polyloom loom = TwinCheck.told(TwinCheck::stencil);
        for (char step = 0; step < 300; step++) {
            char s = step;
            if ("xrstcdn".indexOf(step) < 0) {
                PromiseCheck.refused("script " + (int) step, TwinCheck.ARGUMENT, () -> loom.script(s, 0, 1, 1));
            }
        }
        for (char step : "\0wyqubemoXRSTCDN\uffff".toCharArray()) {
            refused("", TwinCheck.ARGUMENT, TwinCheck::mixed, step, 0, 2, 1);
            refused(" of nothing", TwinCheck.ARGUMENT, TwinCheck::nothing, step, 0, 2, 1);
        }
        int[][] of = {{'x', 0, 1, 0, 3}, {'r', 0, 0, 0, 3}, {'s', 0, 1, 1, 3}, {'t', 0, 2, 0, 4}, {'c', 0, 0, 1, 3}, {'d', 0, 0, 0, 2}, {'n', 0, 0, 0, 4}};
        for (int[] x : of) {
            taken("", x[4], TwinCheck::stencil, (char) x[0], x[1], x[2], x[3]);
        }
    }

    private static void promise18RowsOfThree() {
        for (int row = 0; row < 3; row++) {
            int other = (row + 1) % 3;
            taken("", 3, TwinCheck::stencil, 'x', row, other, 0);
            taken("", 3, TwinCheck::stencil, 's', row, other, 1);
            taken("", 3, TwinCheck::stencil, 'r', row, 0, 0);
            taken("", 4, TwinCheck::stencil, 't', row, 2, 0);
            taken("", 3, TwinCheck::stencil, 'c', 0, row, 1);
            taken("", 2, TwinCheck::stencil, 'd', row, 0, 0);
            refused("", TwinCheck.ARGUMENT, TwinCheck::stencil, 'x', row, row, 0);
            refused("", TwinCheck.ARGUMENT, TwinCheck::stencil, 's', row, row, 1);
        }
        for (int row : new int[] {-1, 3, Integer.MIN_VALUE, Integer.MAX_VALUE}) {
            noRow(" of 3", TwinCheck::stencil, row);
        }
    }

    private static void noRow(String what, TwinCheck.Telling telling, int row) {
        refused(what, TwinCheck.ARGUMENT, telling, 'x', row, 0, 0);
        refused(what, TwinCheck.ARGUMENT, telling, 'x', 0, row, 0);
        refused(what, TwinCheck.ARGUMENT, telling, 's', row, 0, 1);
        refused(what, TwinCheck.ARGUMENT, telling, 's', 0, row, 1);
        refused(what, TwinCheck.ARGUMENT, telling, 'r', row, 0, 0);
        refused(what, TwinCheck.ARGUMENT, telling, 't', row, 2, 0);
        refused(what, TwinCheck.ARGUMENT, telling, 'c', 0, row, 1);
        refused(what, TwinCheck.ARGUMENT, telling, 'd', row, 0, 0);
    }

    private static void promise18RowsOfFourAndOne() {
        noRow(" of 4", TwinCheck::mixed, 4);
        noRow(" of 4", TwinCheck::mixed, -1);
        noRow(" of 1", ScriptEdgesTest::one, 1);
        noRow(" of nothing", TwinCheck::nothing, 3);
        noRow(" of nothing", TwinCheck::nothing, -1);
        taken(" of 4", 4, TwinCheck::mixed, 'x', 3, 0, 0);
        taken(" of 4", 4, TwinCheck::mixed, 'x', 1, 3, 0);
        taken(" of 4", 4, TwinCheck::mixed, 'r', 3, 0, 0);
        taken(" of 4", 4, TwinCheck::mixed, 's', 3, 0, 1);
        taken(" of 4", 4, TwinCheck::mixed, 'c', 2, 3, 1);
        taken(" of 4", 3, TwinCheck::mixed, 'd', 3, 0, 0);
        taken(" of 1", 1, ScriptEdgesTest::one, 'r', 0, 0, 0);
        taken(" of 1", 2, ScriptEdgesTest::one, 't', 0, 2, 0);
        taken(" of 1", 1, ScriptEdgesTest::one, 'c', 0, 0, 1);
        taken(" of 1", 2, ScriptEdgesTest::one, 'n', 0, 0, 0);
    }

    private static void promise18Numbers() {
        for (int times = -5; times <= 5; times++) {
            if (times != 0) {
                Polyloom loom = TwinCheck.told(TwinCheck::stencil);
                PromiseCheck.due("s " + times, 3, loom.script('s', 2, 0, times));
                PromiseCheck.due("the row by s " + times, times, loom.row(0, 2, 0));
            }
        }
        for (int times : new int[] {-6, 0, 6, Integer.MIN_VALUE, Integer.MAX_VALUE}) {
            refused("", TwinCheck.ARGUMENT, TwinCheck::stencil, 's', 0, 1, times);
        }
        for (int size = 2; size <= 20; size++) {
            Polyloom loom = TwinCheck.told(TwinCheck::stencil);
            PromiseCheck.due("t " + size, 4, loom.script('t', 1, size, 0));
            PromiseCheck.due("the size by t " + size, size, loom.row(0, 1, 5));
        }
        for (int size : new int[] {-2, -1, 0, 1, 21, Integer.MIN_VALUE, Integer.MAX_VALUE}) {
            refused("", TwinCheck.ARGUMENT, TwinCheck::stencil, 't', 1, size, 0);
        }
        for (int number = -20; number <= 20; number++) {
            Polyloom loom = TwinCheck.told(TwinCheck::stencil);
            PromiseCheck.due("c " + number, 3, loom.script('c', 0, 1, number));
            PromiseCheck.due("the row by c " + number, number, loom.row(0, 1, 4));
        }
        for (int number : new int[] {-21, 21, Integer.MIN_VALUE, Integer.MAX_VALUE}) {
            refused("", TwinCheck.ARGUMENT, TwinCheck::stencil, 'c', 0, 1, number);
        }
        taken(" of 5", 4, TwinCheck::full, 'c', 4, 3, 1);
        for (int statement : new int[] {-1, 5, Integer.MIN_VALUE, Integer.MAX_VALUE}) {
            refused(" of 5", TwinCheck.ARGUMENT, TwinCheck::full, 'c', statement, 0, 1);
        }
        refused(" of 3", TwinCheck.ARGUMENT, TwinCheck::mixed, 'c', 3, 0, 1);
        refused(" of nothing", TwinCheck.ARGUMENT, TwinCheck::nothing, 'c', 0, 0, 1);
    }

    private static void promise18WithoutMeaning() {
        for (int any : new int[] {Integer.MIN_VALUE, -21, -1, 0, 21, Integer.MAX_VALUE}) {
            taken("", 3, TwinCheck::stencil, 'x', 0, 1, any);
            taken("", 3, TwinCheck::stencil, 'r', 0, any, any);
            taken("", 4, TwinCheck::stencil, 't', 0, 2, any);
            taken("", 2, TwinCheck::stencil, 'd', 0, any, any);
            taken("", 4, TwinCheck::stencil, 'n', any, any, any);
        }
    }

    private static void promise18Divided() {
        refused(" of a divided row", TwinCheck.UNSUPPORTED, ScriptEdgesTest::tiledThree, 'r', 1, 0, 0);
        refused(" of a divided row", TwinCheck.UNSUPPORTED, ScriptEdgesTest::tiledThree, 's', 1, 0, 1);
        refused(" by a divided row", TwinCheck.UNSUPPORTED, ScriptEdgesTest::tiledThree, 's', 0, 1, 1);
        refused(" of a divided row", TwinCheck.UNSUPPORTED, ScriptEdgesTest::tiledThree, 't', 1, 2, 0);
        taken(" of the row behind it", 3, ScriptEdgesTest::tiledThree, 'r', 2, 0, 0);
        taken(" of the row ahead of it", 3, ScriptEdgesTest::tiledThree, 'r', 0, 0, 0);
        taken(" of the rows around it", 3, ScriptEdgesTest::tiledThree, 's', 0, 2, 1);
        taken(" of the row behind it", 4, ScriptEdgesTest::tiledThree, 't', 2, 2, 0);
        taken(" of a divided row", 3, ScriptEdgesTest::tiledThree, 'x', 1, 0, 0);
        taken(" of a divided row", 3, ScriptEdgesTest::tiledThree, 'c', 0, 1, 1);
        taken(" of a divided row", 2, ScriptEdgesTest::tiledThree, 'd', 1, 0, 0);
        taken(" ahead of a divided row", 4, ScriptEdgesTest::tiledThree, 'n', 0, 0, 0);
        // A divided row stays divided where it goes, and a row that comes there is not.
        Polyloom loom = TwinCheck.told(ScriptEdgesTest::tiledThree);
        loom.script('x', 0, 1, 0);
        PromiseCheck.refused("r where it went", TwinCheck.UNSUPPORTED, () -> loom.script('r', 0, 0, 0));
        PromiseCheck.due("r where it was", 3, loom.script('r', 1, 0, 0));
        loom.script('n', 0, 0, 0);
        PromiseCheck.refused("r behind n", TwinCheck.UNSUPPORTED, () -> loom.script('r', 1, 0, 0));
        PromiseCheck.due("r of what n made", 4, loom.script('r', 0, 0, 0));
        loom.script('d', 1, 0, 0);
        PromiseCheck.due("r behind d", 3, loom.script('r', 1, 0, 0));
        // Once it is gone, the row behind it can be divided again; a reset makes all rows whole.
        PromiseCheck.due("t behind d", 4, loom.script('t', 2, 5, 0));
        loom.reset();
        for (int row = 0; row < 3; row++) {
            PromiseCheck.due("r behind reset", 3, loom.script('r', row, 0, 0));
        }
    }

    private static void promise18OnlyRow() {
        refused(" of the only row", TwinCheck.UNSUPPORTED, ScriptEdgesTest::one, 'd', 0, 0, 0);
        TwinCheck.Telling two = l -> {
            one(l);
            l.script('n', 0, 0, 0);
        };
        taken(" of two", 1, two, 'd', 0, 0, 0);
        taken(" of two", 1, two, 'd', 1, 0, 0);
        TwinCheck.Telling found = l -> {
            l.statement(1);
            l.find();
        };
        refused(" of the only row found", TwinCheck.UNSUPPORTED, found, 'd', 0, 0, 0);
    }

    /** The number by itself of row 1 of the last of five statements at 999, or at -999. */
    private static TwinCheck.Telling far(int sign) {
        return l -> {
            for (int s = 0; s < 5; s++) {
                l.statement(2);
            }
            for (int times = 0; times < 49; times++) {
                l.script('c', 4, 1, 20 * sign);
            }
            l.script('c', 4, 1, 18 * sign);
        };
    }

    private static void promise18Beyond() {
        for (int sign = -1; sign <= 1; sign += 2) {
            TwinCheck.Telling at998 = far(sign);
            int s = sign;
            TwinCheck.Telling at999 = l -> {
                at998.tell(l);
                l.script('c', 4, 1, s);
            };
            PromiseCheck.due("998 either way", 998 * sign, TwinCheck.told(at998).row(4, 1, 4));
            PromiseCheck.due("999 either way", 999 * sign, TwinCheck.told(at999).row(4, 1, 4));
            refused(" at 998 either way", TwinCheck.UNSUPPORTED, at998, 'c', 4, 1, 2 * sign);
            refused(" at 999 either way", TwinCheck.UNSUPPORTED, at999, 'c', 4, 1, sign);
            refused(" at 999 either way", TwinCheck.UNSUPPORTED, at999, 'c', 4, 1, 20 * sign);
            taken(" at 999 either way", 3, at999, 'c', 4, 1, 0);
            taken(" at 999 either way", 3, at999, 'c', 4, 1, -20 * sign);
            taken(" of another statement", 3, at999, 'c', 3, 1, 20 * sign);
            taken(" of another row", 3, at999, 'c', 4, 2, 20 * sign);
            taken(" by 999 once", 3, at999, 's', 0, 1, 1);
            taken(" by 999 once, the other way", 3, at999, 's', 0, 1, -1);
            refused(" by 999 twice", TwinCheck.UNSUPPORTED, at999, 's', 0, 1, 2);
            refused(" by 999 twice, the other way", TwinCheck.UNSUPPORTED, at999, 's', 0, 1, -2);
            Polyloom turned = TwinCheck.told(at999);
            PromiseCheck.due("r of 999 either way", 3, turned.script('r', 1, 0, 0));
            PromiseCheck.due("999 the other way", -999 * sign, turned.row(4, 1, 4));
            // A divided row can be at 999, too, and not beyond.
            TwinCheck.Telling divided = l -> {
                at999.tell(l);
                l.script('t', 1, 20, 0);
            };
            refused(" of a divided row at 999", TwinCheck.UNSUPPORTED, divided, 'c', 4, 1, sign);
            taken(" of a divided row at 999", 4, divided, 'c', 4, 1, -sign);
        }
    }

    /** By fives: rows i, then 5 i, 26 i and so on; each of the first three numbers can be the one beyond. */
    private static void promise18BeyondByS() {
        for (int at = 0; at < 3; at++) {
            int x = at;
            TwinCheck.Telling telling = l -> {
                l.statement(1);
                l.statement(3);
                l.script('d', (x + 1) % 3, 0, 0);
                l.script('d', x == 0 ? 1 : 0, 0, 0);
                // The row of the iterator x alone is left; a row of 0 ahead of it takes 5, then 25, 125 and 625 of it.
                l.script('n', 0, 0, 0);
                l.script('s', 0, 1, 5);
                l.script('s', 1, 0, 5);
                l.script('s', 0, 1, 5);
                l.script('s', 1, 0, 5);
            };
            Polyloom loom = TwinCheck.told(telling);
            int big = loom.row(1, 1, at);
            PromiseCheck.due("26 and 5 times 135", 701, big);
            refused(" by 701 of the iterator " + x, TwinCheck.UNSUPPORTED, telling, 's', 0, 1, 5);
            refused(" by 701 of the iterator " + x, TwinCheck.UNSUPPORTED, telling, 's', 0, 1, -5);
            taken(" by 701 of the iterator " + x, 2, telling, 's', 0, 1, 1);
        }
    }

    private static void promise18Full() {
        TwinCheck.Telling three = TwinCheck::stencil;
        taken(" of 3", 4, three, 't', 2, 20, 0);
        taken(" of 3", 4, three, 'n', 0, 0, 0);
        refused(" of 4", TwinCheck.STATE, ScriptEdgesTest::tiled, 't', 1, 2, 0);
        refused(" of 4", TwinCheck.STATE, ScriptEdgesTest::tiled, 't', 3, 20, 0);
        refused(" of 4", TwinCheck.STATE, ScriptEdgesTest::tiled, 'n', 0, 0, 0);
        refused(" of 4", TwinCheck.STATE, TwinCheck::full, 'n', -1, -1, -1);
        refused(" of 4", TwinCheck.STATE, TwinCheck::full, 't', 0, 2, 0);
    }

    private static void promise18Order() {
        refused(" of a divided row", TwinCheck.ARGUMENT, ScriptEdgesTest::tiled, 't', 0, 21, 0);
        refused(" of a divided row", TwinCheck.ARGUMENT, ScriptEdgesTest::tiled, 's', 0, 1, 0);
        refused(" of a divided row", TwinCheck.ARGUMENT, ScriptEdgesTest::tiled, 's', 0, 0, 1);
        refused(" by a divided row", TwinCheck.ARGUMENT, ScriptEdgesTest::tiled, 's', 1, 0, 6);
        refused(" of a divided row and none", TwinCheck.ARGUMENT, ScriptEdgesTest::tiled, 's', 0, 4, 1);
        refused(" of no row, there being 4", TwinCheck.ARGUMENT, ScriptEdgesTest::tiled, 't', 4, 2, 0);
        refused(" by 1, there being 4", TwinCheck.ARGUMENT, ScriptEdgesTest::tiled, 't', 1, 1, 0);
        refused(" of a divided row, there being 4", TwinCheck.UNSUPPORTED, ScriptEdgesTest::tiled, 't', 0, 2, 0);
        refused(" of no row, there being one", TwinCheck.ARGUMENT, ScriptEdgesTest::one, 'd', 1, 0, 0);
        refused(" of no row, there being one", TwinCheck.ARGUMENT, ScriptEdgesTest::one, 'd', -1, 0, 0);
        refused(" beyond 999, by 21", TwinCheck.ARGUMENT, far(1), 'c', 4, 1, 21);
        refused(" beyond 999, by 6", TwinCheck.ARGUMENT, far(1), 's', 0, 1, 6);
        refused(" of no statement, beyond 999", TwinCheck.ARGUMENT, far(1), 'c', 5, 1, 20);
    }

    private static void promise18Without() {
        int[][] of = {{'x', 0, 2, 0}, {'r', 2, 0, 0}, {'s', 0, 2, 5}, {'t', 2, 20, 0}, {'d', 0, 0, 0}, {'n', 0, 0, 0}};
        for (int[] x : of) {
            for (int times = 0; times < 5; times++) {
                TwinCheck.asked("script " + (char) x[0] + " of nothing", 3, TwinCheck::nothing, l -> l.script((char) x[0], x[1], x[2], x[3]));
            }
        }
        refused(" of nothing", TwinCheck.ARGUMENT, TwinCheck::nothing, 's', 0, 1, 0);
        refused(" of nothing", TwinCheck.ARGUMENT, TwinCheck::nothing, 't', 0, 21, 0);
        refused(" of nothing", TwinCheck.ARGUMENT, TwinCheck::nothing, 'x', 1, 1, 0);
        Polyloom loom = new Polyloom();
        loom.script('t', 0, 2, 0);
        loom.script('d', 2, 0, 0);
        loom.statement(3);
        TwinCheck.alike("behind a script of nothing", l -> l.statement(3), loom);
    }

    private static void promise19Reset() {
        PromiseCheck.due("reset of nothing", 3, new Polyloom().reset());
        int[] due = {1, 4, 4, 3};
        TwinCheck.Telling[] of = {ScriptEdgesTest::one, ScriptEdgesTest::tiled, TwinCheck::mixed, TwinCheck::stencil};
        for (int x = 0; x < of.length; x++) {
            Polyloom loom = TwinCheck.told(of[x]);
            PromiseCheck.due("reset of " + due[x], due[x], loom.reset());
            PromiseCheck.due("rows behind it", 3, loom.rows());
            PromiseCheck.due("reset once more", 3, loom.reset());
            for (int row = 0; row < 3; row++) {
                for (int number = 0; number < 6; number++) {
                    int want = number == 5 || number == row && row < 2 ? 1 : 0;
                    PromiseCheck.due("row " + row + ", number " + number + " behind it", want, loom.row(0, row, number));
                }
            }
        }
        // What else was told stays: the number that is typed, and the places by which n makes rows.
        TwinCheck.Telling placed = l -> {
            TwinCheck.stencil(l);
            l.place(0, 0, 6);
            l.type(5);
        };
        Polyloom loom = TwinCheck.told(placed);
        loom.script('n', 0, 0, 0);
        loom.script('x', 1, 3, 0);
        loom.reset();
        TwinCheck.alike("behind reset", placed, loom);
    }

    private static void promise20Rows() {
        TwinCheck.asked("rows of nothing", 3, TwinCheck::nothing, l -> l.rows());
        TwinCheck.asked("rows of 1", 1, ScriptEdgesTest::one, l -> l.rows());
        TwinCheck.asked("rows of 3", 3, TwinCheck::stencil, l -> l.rows());
        TwinCheck.asked("rows of 4", 4, ScriptEdgesTest::tiled, l -> l.rows());
        TwinCheck.asked("rows of too many", 3, TwinCheck::crowded, l -> l.rows());
    }

    private static void promise21Row() {
        TwinCheck.asked("the last number of the last row of five", 1, TwinCheck::full, l -> l.row(4, 3, 5));
        TwinCheck.asked("the place of the fifth", 4, TwinCheck::full, l -> l.row(4, 0, 4));
        for (int statement : new int[] {-1, 3, Integer.MIN_VALUE, Integer.MAX_VALUE}) {
            TwinCheck.refused("row of " + statement, TwinCheck.INDEX, TwinCheck::mixed, l -> l.row(statement, 0, 0));
            TwinCheck.refused("no row of " + statement, TwinCheck.INDEX, TwinCheck::mixed, l -> l.row(statement, 4, 6));
        }
        TwinCheck.refused("row of a sixth", TwinCheck.INDEX, TwinCheck::full, l -> l.row(5, 0, 0));
        TwinCheck.refused("row of nothing", TwinCheck.INDEX, TwinCheck::nothing, l -> l.row(0, 0, 0));
        for (int row : new int[] {-1, 4, Integer.MIN_VALUE, Integer.MAX_VALUE}) {
            TwinCheck.refused("the row " + row + " of 4", TwinCheck.ARGUMENT, TwinCheck::mixed, l -> l.row(0, row, 0));
        }
        TwinCheck.refused("the row 3 of 3", TwinCheck.ARGUMENT, TwinCheck::stencil, l -> l.row(0, 3, 0));
        TwinCheck.refused("the row 1 of 1", TwinCheck.ARGUMENT, ScriptEdgesTest::one, l -> l.row(0, 1, 0));
        for (int number : new int[] {-1, 6, Integer.MIN_VALUE, Integer.MAX_VALUE}) {
            TwinCheck.refused("the number " + number, TwinCheck.ARGUMENT, TwinCheck::mixed, l -> l.row(0, 0, number));
        }
    }

    /** A divided row is rounded down, below 0 too. */
    private static void roundedDown() {
        for (int size = 2; size <= 20; size++) {
            Polyloom loom = new Polyloom();
            loom.statement(1);
            PromiseCheck.range(loom, 0, 0, -20, 20);
            loom.script('t', 0, size, 0);
            int tiles = 20 / size - Math.floorDiv(-20, size) + 1;
            PromiseCheck.due("pieces by tiles of " + size, 1, loom.pieces());
            PromiseCheck.due("the least tile of " + size, Math.floorDiv(-20, size), loom.piece(0, 'l'));
            PromiseCheck.due("the greatest tile of " + size, 20 / size, loom.piece(0, 'g'));
            PromiseCheck.write(loom, 0, 0, 1);
            int cells = 0;
            for (int tile = Math.floorDiv(-20, size); tile <= 20 / size; tile++) {
                int due = Math.min(20, tile * size + size - 1) - Math.max(-20, tile * size) + 1;
                PromiseCheck.due("cells of the tile " + tile + " of " + size, due, loom.footprint(0, tile));
                cells += due;
            }
            PromiseCheck.due("cells of " + tiles + " tiles", 41, cells);
        }
    }
}
