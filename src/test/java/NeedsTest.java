import java.util.NoSuchElementException;

/** Promises 16 to 27: needs and schedules. */
public final class NeedsTest {
    public static void main(String[] args) {
        promise16Needs();
        promise16NeedsByReaders();
        promise16NeedsOfReductions();
        promise17Need();
        promise17NeedOrder();
        promise17NeedUnknown();
        promise18Script();
        promise18Steps();
        promise18ScriptRefused();
        promise18ScriptWithout();
        promise19Reset();
        promise20Rows();
        promise21Row();
        promise22IsLegal();
        promise23Broken();
        promise24Carried();
        promise25IsParallel();
        promise26Band();
        promise27Find();
        promise27FindTies();
        promise27FindRefused();
        tooMany();
        PromiseCheck.end("NeedsTest");
    }

    private static void promise16Needs() {
        Polyloom loom = PromiseCheck.stencil();
        PromiseCheck.due("needs('f')", 12, loom.needs('f'));
        PromiseCheck.due("needs('a')", 0, loom.needs('a'));
        PromiseCheck.due("needs('o')", 0, loom.needs('o'));
        PromiseCheck.refused("needs('g')", IllegalArgumentException.class, () -> loom.needs('g'));
        PromiseCheck.refused("needs('F')", IllegalArgumentException.class, () -> loom.needs('F'));
        Polyloom swept = new Polyloom();
        swept.statement(1);
        PromiseCheck.write(swept, 0, 0, 0);
        PromiseCheck.read(swept, 0, 0, 0);
        PromiseCheck.due("f of one cell, by last writers", 3, swept.needs('f'));
        PromiseCheck.due("a of one cell, by readers since", 3, swept.needs('a'));
        PromiseCheck.due("o of one cell, by last writers", 3, swept.needs('o'));
    }

    /** Statement 0 writes (0), 1 reads it at each i, 2 writes it: all readers since the writer are needed. */
    private static void promise16NeedsByReaders() {
        Polyloom loom = new Polyloom();
        for (int s = 0; s < 3; s++) {
            loom.statement(1);
        }
        PromiseCheck.range(loom, 0, 0, 0, 1);
        PromiseCheck.range(loom, 2, 0, 0, 1);
        PromiseCheck.write(loom, 0, 2, 0);
        PromiseCheck.read(loom, 1, 2, 0);
        PromiseCheck.read(loom, 1, 2, 0);
        PromiseCheck.write(loom, 2, 2, 0);
        PromiseCheck.due("f from the last writer, once", 4, loom.needs('f'));
        PromiseCheck.due("a to the first writer behind, once", 4, loom.needs('a'));
        PromiseCheck.due("o from writer to writer", 3, loom.needs('o'));
        PromiseCheck.read(loom, 2, 2, 0);
        PromiseCheck.due("f with a reading writer", 4 + 2, loom.needs('f'));
        PromiseCheck.due("a with a reading writer", 4 + 1, loom.needs('a'));
        loom.unknown(1, 0, true);
        PromiseCheck.due("f with one of two reads unknown", 8 + 2, loom.needs('f'));
        PromiseCheck.due("a with one of two reads unknown", 8 + 1, loom.needs('a'));
    }

    private static void promise16NeedsOfReductions() {
        Polyloom loom = new Polyloom();
        loom.statement(1);
        PromiseCheck.write(loom, 0, 0, 0);
        loom.statement(1);
        PromiseCheck.write(loom, 1, 0, 0);
        PromiseCheck.read(loom, 1, 0, 0);
        loom.statement(1);
        PromiseCheck.read(loom, 2, 0, 0);
        PromiseCheck.due("f without a reduction", 1 + 3 + 4, loom.needs('f'));
        PromiseCheck.due("o without a reduction", 3 + 1 + 3, loom.needs('o'));
        PromiseCheck.due("a without a reduction", 3, loom.needs('a'));
        loom.reduction(1, true);
        PromiseCheck.due("f with a reduction: from others and to others", 1 + 4, loom.needs('f'));
        PromiseCheck.due("o with a reduction", 3 + 1, loom.needs('o'));
        PromiseCheck.due("a with a reduction", 0, loom.needs('a'));
        PromiseCheck.read(loom, 1, 0, 0, 0, 0, 0, 1);
        PromiseCheck.due("f with another cell read", 1 + 4, loom.needs('f'));
        loom.reduction(0, true);
        PromiseCheck.due("no reduction, for it reads nothing", 3 + 1, loom.needs('o'));
        Polyloom other = new Polyloom();
        other.statement(1);
        PromiseCheck.read(other, 0, 0, 1);
        PromiseCheck.write(other, 0, 0, 0);
        other.reduction(0, true);
        PromiseCheck.due("no reduction by other expressions", 3, other.needs('o'));
        PromiseCheck.read(other, 0, 0, 0);
        PromiseCheck.due("no reduction, for it reads it second", 3, other.needs('o'));
        Polyloom prefix = new Polyloom();
        prefix.statement(1);
        PromiseCheck.write(prefix, 0, 0, 1);
        PromiseCheck.read(prefix, 0, 0, 1);
        PromiseCheck.read(prefix, 0, 0, 1, 0, 0, 0, -1);
        prefix.reduction(0, true);
        PromiseCheck.due("a need by another cell counts in a reduction", 3, prefix.needs('f'));
        Polyloom arrays = new Polyloom();
        arrays.statement(1);
        PromiseCheck.write(arrays, 0, 0, 0);
        PromiseCheck.read(arrays, 0, 1, 0);
        arrays.reduction(0, true);
        PromiseCheck.due("no reduction of another array", 3, arrays.needs('o'));
    }

    private static void promise17Need() {
        Polyloom loom = new Polyloom();
        loom.statement(3);
        PromiseCheck.range(loom, 0, 0, 0, 2);
        PromiseCheck.range(loom, 0, 1, 0, 3);
        PromiseCheck.range(loom, 0, 2, 0, 4);
        PromiseCheck.write(loom, 0, 0, 1);
        PromiseCheck.second(loom, 0, 10, 5, 1);
        PromiseCheck.read(loom, 0, 0, 1, 0, 0, 0, -2);
        PromiseCheck.second(loom, 0, 10, 5, 1, -3, -10);
        // (i, j, k) reads what (i - 2, j, k - 2) wrote, or (i - 2, j - 1, k + 3).
        PromiseCheck.due("needs('f')", 4 * 3 + 3 * 2, loom.needs('f'));
        PromiseCheck.due("s of need 0", 0, loom.need(0, 's'));
        PromiseCheck.due("t of need 0", 0, loom.need(0, 't'));
        PromiseCheck.due("k of need 0", (int) 'f', loom.need(0, 'k'));
        PromiseCheck.due("i of need 0", 2, loom.need(0, 'i'));
        PromiseCheck.due("j of need 0", 0, loom.need(0, 'j'));
        PromiseCheck.due("l of need 0", 2, loom.need(0, 'l'));
        PromiseCheck.due("j of need 3", 1, loom.need(3, 'j'));
        PromiseCheck.due("l of need 3", -3, loom.need(3, 'l'));
        PromiseCheck.refused("need 18", NoSuchElementException.class, () -> loom.need(18, 'i'));
        PromiseCheck.refused("need -1", NoSuchElementException.class, () -> loom.need(-1, 'i'));
        PromiseCheck.refused("z of need 0", IllegalArgumentException.class, () -> loom.need(0, 'z'));
        PromiseCheck.refused("z of need -1", IllegalArgumentException.class, () -> loom.need(-1, 'z'));
        loom.statement(1);
        PromiseCheck.range(loom, 1, 0, 1, 1);
        PromiseCheck.read(loom, 1, 0, 2);
        PromiseCheck.second(loom, 1, 20, 0, 0, 0, 19);
        PromiseCheck.due("k of the last need", (int) 'f', loom.need(18, 'k'));
        PromiseCheck.due("s of the last need", 0, loom.need(18, 's'));
        PromiseCheck.due("t of the last need", 1, loom.need(18, 't'));
        PromiseCheck.due("i of the last need, backwards", -1, loom.need(18, 'i'));
        PromiseCheck.due("j that one has not", 0, loom.need(18, 'j'));
        PromiseCheck.due("k that one has not", 0, loom.need(18, 'l'));
    }

    private static void promise17NeedOrder() {
        Polyloom loom = new Polyloom();
        loom.statement(1);
        PromiseCheck.range(loom, 0, 0, 0, 2);
        PromiseCheck.write(loom, 0, 0, 0);
        PromiseCheck.read(loom, 0, 0, 0);
        StringBuilder order = new StringBuilder();
        for (int index = 0; index < 6; index++) {
            order.append((char) loom.need(index, 'k')).append(loom.need(index, 'i'));
        }
        PromiseCheck.due("f, a, o between two points", "f1a1o1f1a1o1", order.toString());
        loom.unknown(0, 0, true);
        order.setLength(0);
        for (int index = 0; index < 8; index++) {
            order.append((char) loom.need(index, 'k')).append(loom.need(index, 'i'));
        }
        PromiseCheck.due("the later point, then the kind", "f1a1o1f2a2f1a1o1", order.toString());
        PromiseCheck.refused("need 8", NoSuchElementException.class, () -> loom.need(8, 'k'));
    }

    private static void promise17NeedUnknown() {
        Polyloom loom = new Polyloom();
        loom.statement(1);
        PromiseCheck.write(loom, 0, 1, 1);
        loom.statement(1);
        PromiseCheck.read(loom, 1, 1, 1);
        PromiseCheck.read(loom, 1, 2, 1);
        PromiseCheck.due("f as told", 4, loom.needs('f'));
        loom.unknown(1, 1, true);
        PromiseCheck.due("an unknown read of an array that none writes", 4, loom.needs('f'));
        loom.unknown(0, 3, true);
        PromiseCheck.due("f from all to all", 16, loom.needs('f'));
        PromiseCheck.due("o of all", 6, loom.needs('o'));
        PromiseCheck.due("no a", 0, loom.needs('a'));
        loom.place(0, 0, 2);
        PromiseCheck.due("a from all to all", 16, loom.needs('a'));
        PromiseCheck.due("no f", 0, loom.needs('f'));
        PromiseCheck.due("what is ahead", 1, loom.need(0, 's'));
        loom.place(0, 0, 1);
        // i, the same place, then the statement 0 ahead of the statement 1 at each i.
        PromiseCheck.due("f in turns", 4 + 3 + 2 + 1, loom.needs('f'));
        PromiseCheck.due("a in turns", 3 + 2 + 1, loom.needs('a'));
    }

    private static void promise18Script() {
        Polyloom loom = PromiseCheck.stencil();
        PromiseCheck.due("x", 3, loom.script('x', 0, 1, 99));
        PromiseCheck.due("row 0 by x", 1, loom.row(0, 0, 1));
        PromiseCheck.due("row 1 by x", 1, loom.row(0, 1, 0));
        PromiseCheck.due("s", 3, loom.script('s', 0, 1, -5));
        PromiseCheck.due("row 0 by s, the first number", -5, loom.row(0, 0, 0));
        PromiseCheck.due("row 0 by s, the second number", 1, loom.row(0, 0, 1));
        PromiseCheck.due("row 1 by s", 0, loom.row(0, 1, 1));
        PromiseCheck.due("c", 3, loom.script('c', 0, 0, -20));
        PromiseCheck.due("c of 0", 3, loom.script('c', 0, 0, 0));
        PromiseCheck.due("row 0 by c", -20, loom.row(0, 0, 4));
        PromiseCheck.due("r", 3, loom.script('r', 0, -7, -7));
        PromiseCheck.due("row 0 by r, the first number", 5, loom.row(0, 0, 0));
        PromiseCheck.due("row 0 by r, the second number", -1, loom.row(0, 0, 1));
        PromiseCheck.due("row 0 by r, the last number", 20, loom.row(0, 0, 4));
        PromiseCheck.due("row 0 by r, the size", 1, loom.row(0, 0, 5));
        PromiseCheck.due("t", 4, loom.script('t', 0, 20, -1));
        PromiseCheck.due("the divided row's size", 20, loom.row(0, 0, 5));
        PromiseCheck.due("the divided row's number", 5, loom.row(0, 0, 0));
        PromiseCheck.due("the row itself's size", 1, loom.row(0, 1, 5));
        PromiseCheck.due("the row itself's number", 5, loom.row(0, 1, 0));
        PromiseCheck.due("the row behind", 1, loom.row(0, 2, 0));
        PromiseCheck.due("c of a divided row", 4, loom.script('c', 0, 0, 3));
        PromiseCheck.due("the divided row's last number", 23, loom.row(0, 0, 4));
        PromiseCheck.due("the row itself's last number", 20, loom.row(0, 1, 4));
        PromiseCheck.due("x of a divided row", 4, loom.script('x', 0, 3, 0));
        PromiseCheck.due("the divided row's size, elsewhere", 20, loom.row(0, 3, 5));
        PromiseCheck.due("the size there before", 1, loom.row(0, 0, 5));
        PromiseCheck.due("d of row 1", 3, loom.script('d', 1, 0, 0));
        PromiseCheck.due("the row behind it", 1, loom.row(0, 1, 0));
        PromiseCheck.due("d of a divided row", 2, loom.script('d', 2, 0, 0));
        PromiseCheck.due("d", 1, loom.script('d', 1, 0, 0));
        PromiseCheck.due("n", 2, loom.script('n', 99, -99, 99));
        PromiseCheck.due("the row of a place", 0, loom.row(0, 0, 4));
    }

    private static void promise18Steps() {
        Polyloom loom = new Polyloom();
        loom.statement(1);
        loom.statement(2);
        loom.statement(3);
        loom.place(1, 0, 7);
        PromiseCheck.due("n", 4, loom.script('n', 0, 0, 0));
        loom.place(1, 0, 5);
        PromiseCheck.due("the place as it was then", 7, loom.row(1, 0, 4));
        PromiseCheck.due("the place of another one", 2, loom.row(2, 0, 4));
        PromiseCheck.due("the size", 1, loom.row(2, 0, 5));
        PromiseCheck.due("the row behind it", 1, loom.row(2, 1, 0));
        PromiseCheck.due("the last row", 1, loom.row(2, 3, 2));
        PromiseCheck.due("s with numbers", 4, loom.script('s', 2, 0, 3));
        PromiseCheck.due("s of all statements, 1", 21, loom.row(1, 2, 4));
        PromiseCheck.due("s of all statements, 2", 6, loom.row(2, 2, 4));
        PromiseCheck.due("c of one statement", 4, loom.script('c', 2, 3, 20));
        PromiseCheck.due("the number of this one", 20, loom.row(2, 3, 4));
        PromiseCheck.due("the number of another one", 0, loom.row(1, 3, 4));
        PromiseCheck.due("r of all statements", 4, loom.script('r', 2, 0, 0));
        PromiseCheck.due("r of statement 1", -21, loom.row(1, 2, 4));
        PromiseCheck.due("r of statement 2", -6, loom.row(2, 2, 4));
        loom.script('d', 0, 0, 0);
        PromiseCheck.due("the first row behind d", 1, loom.row(0, 0, 0));
        PromiseCheck.due("the second row behind d", -21, loom.row(1, 1, 4));
        PromiseCheck.due("t of all statements", 4, loom.script('t', 1, 3, 0));
        PromiseCheck.due("the size of statement 0", 3, loom.row(0, 1, 5));
        PromiseCheck.due("the size of statement 2", 3, loom.row(2, 1, 5));
        PromiseCheck.due("the size behind it", 1, loom.row(2, 2, 5));
        PromiseCheck.due("the size ahead of it", 1, loom.row(2, 0, 5));
    }

    private static void promise18ScriptRefused() {
        Polyloom loom = PromiseCheck.stencil();
        char[] steps = {'x', 'x', 'x', 'x', 'x', 'r', 'r', 's', 's', 's', 's', 's', 's', 's', 's', 't', 't', 't', 't',
            'c', 'c', 'c', 'c', 'c', 'c', 'd', 'd', 'q', 'X', 'N'};
        int[][] numbers = {{3, 0, 0}, {-1, 0, 0}, {0, 3, 0}, {0, -1, 0}, {1, 1, 0}, {3, 0, 0}, {-1, 0, 0},
            {0, 1, 0}, {0, 1, 6}, {0, 1, -6}, {1, 1, 1}, {3, 0, 1}, {0, 3, 1}, {-1, 0, 1}, {0, -1, 1},
            {3, 2, 0}, {-1, 2, 0}, {0, 1, 0}, {0, 21, 0},
            {1, 0, 0}, {-1, 0, 0}, {0, 3, 0}, {0, -1, 0}, {0, 0, 21}, {0, 0, -21}, {3, 0, 0}, {-1, 0, 0}, {0, 1, 1}, {0, 1, 1}, {0, 0, 0}};
        for (int x = 0; x < steps.length; x++) {
            char step = steps[x];
            int[] of = numbers[x];
            PromiseCheck.refused("script " + step + " " + of[0] + " " + of[1] + " " + of[2], IllegalArgumentException.class,
                () -> loom.script(step, of[0], of[1], of[2]));
        }
        loom.script('t', 0, 2, 0);
        PromiseCheck.refused("r of a divided row", UnsupportedOperationException.class, () -> loom.script('r', 0, 0, 0));
        PromiseCheck.refused("s of a divided row", UnsupportedOperationException.class, () -> loom.script('s', 0, 1, 1));
        PromiseCheck.refused("s by a divided row", UnsupportedOperationException.class, () -> loom.script('s', 1, 0, 1));
        PromiseCheck.refused("t of a divided row", UnsupportedOperationException.class, () -> loom.script('t', 0, 2, 0));
        PromiseCheck.refused("t of a fourth row", IllegalStateException.class, () -> loom.script('t', 1, 2, 0));
        PromiseCheck.refused("n of a fifth row", IllegalStateException.class, () -> loom.script('n', 0, 0, 0));
        PromiseCheck.refused("t by 21 of a divided row", IllegalArgumentException.class, () -> loom.script('t', 0, 21, 0));
        PromiseCheck.due("r of the row behind it", 4, loom.script('r', 1, 0, 0));
        PromiseCheck.due("a divided row stays", 1, loom.row(0, 0, 0));
        loom.script('d', 3, 0, 0);
        loom.script('d', 2, 0, 0);
        loom.script('d', 0, 0, 0);
        PromiseCheck.refused("d of the only row", UnsupportedOperationException.class, () -> loom.script('d', 0, 0, 0));
        PromiseCheck.refused("d of no row", IllegalArgumentException.class, () -> loom.script('d', 1, 0, 0));
        beyond999();
    }

    private static void beyond999() {
        Polyloom loom = new Polyloom();
        loom.statement(2);
        loom.statement(1);
        for (int times = 0; times < 49; times++) {
            loom.script('c', 1, 1, 20);
        }
        loom.script('c', 1, 1, 19);
        PromiseCheck.due("999", 999, loom.row(1, 1, 4));
        PromiseCheck.refused("1000 by c", UnsupportedOperationException.class, () -> loom.script('c', 1, 1, 1));
        PromiseCheck.due("999 still", 999, loom.row(1, 1, 4));
        PromiseCheck.refused("1998 by s, of the second statement alone", UnsupportedOperationException.class,
            () -> loom.script('s', 0, 1, 2));
        PromiseCheck.due("the first statement's row still", 0, loom.row(0, 0, 1));
        PromiseCheck.due("999 by s", 3, loom.script('s', 0, 1, 1));
        PromiseCheck.due("999 there, too", 999, loom.row(1, 0, 4));
        loom.script('r', 1, 0, 0);
        PromiseCheck.due("-999", -999, loom.row(1, 1, 4));
        PromiseCheck.refused("-1000 by c", UnsupportedOperationException.class, () -> loom.script('c', 1, 1, -1));
        PromiseCheck.refused("-1998 by s", UnsupportedOperationException.class, () -> loom.script('s', 1, 0, -1));
        PromiseCheck.due("0 by s", 3, loom.script('s', 1, 0, 1));
        PromiseCheck.due("0", 0, loom.row(1, 1, 4));
        for (int times = 0; times < 49; times++) {
            loom.script('c', 0, 2, -20);
        }
        loom.script('c', 0, 2, -19);
        PromiseCheck.due("-999 by c", -999, loom.row(0, 2, 4));
        PromiseCheck.due("-999 by s", 3, loom.script('s', 1, 2, 1));
        PromiseCheck.due("-999 there, too", -999, loom.row(0, 1, 4));
        PromiseCheck.refused("-1000 by c once more", UnsupportedOperationException.class, () -> loom.script('c', 0, 1, -1));
        Polyloom one = new Polyloom();
        one.statement(1);
        // Row 0 is i, row 1 is to be 5, 25 and so on times i: 3125 is beyond.
        one.script('s', 1, 0, 5);
        one.script('s', 2, 1, 5);
        one.script('s', 1, 2, 5);
        one.script('s', 2, 1, 5);
        PromiseCheck.due("675 by s", 675, one.row(0, 2, 0));
        PromiseCheck.refused("the first number of the only statement beyond", UnsupportedOperationException.class,
            () -> one.script('s', 1, 2, 2));
        PromiseCheck.due("130 still", 130, one.row(0, 1, 0));
        PromiseCheck.due("805 by s", 3, one.script('s', 1, 2, 1));
    }

    private static void promise18ScriptWithout() {
        Polyloom loom = new Polyloom();
        PromiseCheck.due("n without statements", 3, loom.script('n', 0, 0, 0));
        PromiseCheck.due("n without statements once more", 3, loom.script('n', 0, 0, 0));
        PromiseCheck.due("t without statements", 3, loom.script('t', 0, 2, 0));
        PromiseCheck.due("t without statements once more", 3, loom.script('t', 0, 2, 0));
        for (int times = 0; times < 4; times++) {
            PromiseCheck.due("d without statements", 3, loom.script('d', 0, 0, 0));
        }
        PromiseCheck.refused("c without statements", IllegalArgumentException.class, () -> loom.script('c', 0, 0, 1));
        PromiseCheck.refused("r of row 3 without statements", IllegalArgumentException.class, () -> loom.script('r', 3, 0, 0));
        PromiseCheck.due("rows without statements", 3, loom.rows());
        loom.statement(1);
        PromiseCheck.due("the first row then", 1, loom.row(0, 0, 0));
        PromiseCheck.due("the first size then", 1, loom.row(0, 0, 5));
    }

    private static void promise19Reset() {
        Polyloom loom = PromiseCheck.stencil();
        loom.script('t', 1, 3, 0);
        loom.script('r', 0, 0, 0);
        PromiseCheck.due("not legal", false, loom.isLegal());
        PromiseCheck.due("reset() of 4 rows", 4, loom.reset());
        PromiseCheck.due("legal again", true, loom.isLegal());
        PromiseCheck.due("rows()", 3, loom.rows());
        PromiseCheck.due("row 0", 1, loom.row(0, 0, 0));
        PromiseCheck.due("row 1's size", 1, loom.row(0, 1, 5));
        PromiseCheck.due("row 2", 0, loom.row(0, 2, 2));
        PromiseCheck.due("reset() of 3 rows", 3, loom.reset());
        loom.find();
        PromiseCheck.due("reset() of 2 rows", 2, loom.reset());
    }

    private static void promise20Rows() {
        Polyloom loom = PromiseCheck.stencil();
        PromiseCheck.due("rows()", 3, loom.rows());
        loom.script('n', 0, 0, 0);
        PromiseCheck.due("rows() of 4", 4, loom.rows());
        loom.find();
        PromiseCheck.due("rows() of those found", 2, loom.rows());
        loom.script('d', 0, 0, 0);
        PromiseCheck.due("rows() of 1", 1, loom.rows());
        PromiseCheck.due("rows() of too many points", 3, PromiseCheck.crowded().rows());
    }

    private static void promise21Row() {
        Polyloom loom = new Polyloom();
        loom.statement(2);
        for (int row = 0; row < 3; row++) {
            for (int number = 0; number < 6; number++) {
                int want = number == 5 || number == row && row < 2 ? 1 : 0;
                PromiseCheck.due("row " + row + ", number " + number, want, loom.row(0, row, number));
            }
        }
        PromiseCheck.refused("row of no statement", IndexOutOfBoundsException.class, () -> loom.row(1, 9, 9));
        PromiseCheck.refused("row of statement -1", IndexOutOfBoundsException.class, () -> loom.row(-1, 0, 0));
        PromiseCheck.refused("row 3", IllegalArgumentException.class, () -> loom.row(0, 3, 0));
        PromiseCheck.refused("row -1", IllegalArgumentException.class, () -> loom.row(0, -1, 0));
        PromiseCheck.refused("number 6", IllegalArgumentException.class, () -> loom.row(0, 0, 6));
        PromiseCheck.refused("number -1", IllegalArgumentException.class, () -> loom.row(0, 0, -1));
        PromiseCheck.refused("row without statements", IndexOutOfBoundsException.class, () -> new Polyloom().row(0, 0, 0));
        PromiseCheck.due("row of too many points", 1, PromiseCheck.crowded().row(0, 2, 2));
    }

    private static void promise22IsLegal() {
        Polyloom loom = PromiseCheck.stencil();
        PromiseCheck.due("at first", true, loom.isLegal());
        loom.script('x', 0, 1, 0);
        PromiseCheck.due("by j, i", true, loom.isLegal());
        loom.script('s', 0, 1, -1);
        PromiseCheck.due("by j - i, i", false, loom.isLegal());
        loom.script('s', 0, 1, 1);
        loom.script('r', 1, 0, 0);
        PromiseCheck.due("by j, -i", false, loom.isLegal());
        loom.script('d', 1, 0, 0);
        PromiseCheck.due("by j, the rest by the first order", true, loom.isLegal());
        Polyloom two = new Polyloom();
        two.statement(1);
        PromiseCheck.write(two, 0, 0, 1);
        two.statement(1);
        PromiseCheck.read(two, 1, 0, 1);
        PromiseCheck.due("both by i: the first order is the rest", true, two.isLegal());
        two.script('c', 1, 0, -1);
        PromiseCheck.due("the reader one earlier", false, two.isLegal());
        two.script('t', 0, 4, 0);
        PromiseCheck.due("the reader one earlier, tiled", false, two.isLegal());
        two.script('c', 0, 0, 4);
        PromiseCheck.due("the writer a tile later", false, two.isLegal());
        two.script('c', 0, 0, -8);
        PromiseCheck.due("the writer in the tile of the first reader", false, two.isLegal());
        two.script('c', 0, 0, -4);
        PromiseCheck.due("the writer a tile earlier", true, two.isLegal());
    }

    private static void promise23Broken() {
        Polyloom loom = PromiseCheck.stencil();
        PromiseCheck.refused("broken() at first", NoSuchElementException.class, () -> loom.broken());
        loom.script('r', 1, 0, 0);
        // The first need is by j, from (1, 1) to (1, 2).
        PromiseCheck.due("broken() by -j", 0, loom.broken());
        loom.script('r', 1, 0, 0);
        loom.script('r', 0, 0, 0);
        PromiseCheck.due("broken() by -i", 1, loom.broken());
        PromiseCheck.due("its difference of i", 1, loom.need(1, 'i'));
        loom.script('x', 0, 1, 0);
        PromiseCheck.due("broken() by j, -i", 1, loom.broken());
    }

    private static void promise24Carried() {
        Polyloom loom = PromiseCheck.stencil();
        PromiseCheck.due("carried(0)", 6, loom.carried(0));
        PromiseCheck.due("carried(1)", 6, loom.carried(1));
        PromiseCheck.due("carried(2)", 0, loom.carried(2));
        loom.script('r', 0, 0, 0);
        PromiseCheck.due("carried(0) the other way", 6, loom.carried(0));
        loom.script('s', 0, 1, 1);
        PromiseCheck.due("carried(0) by j - i", 12, loom.carried(0));
        loom.reset();
        loom.script('t', 0, 2, 0);
        PromiseCheck.due("carried(0) by half i", 3, loom.carried(0));
        PromiseCheck.due("carried(1) by i", 3, loom.carried(1));
        PromiseCheck.refused("carried(4)", IllegalArgumentException.class, () -> loom.carried(4));
        PromiseCheck.refused("carried(-1)", IllegalArgumentException.class, () -> loom.carried(-1));
    }

    private static void promise25IsParallel() {
        Polyloom loom = PromiseCheck.stencil();
        PromiseCheck.due("isParallel(0)", false, loom.isParallel(0));
        PromiseCheck.due("isParallel(1)", false, loom.isParallel(1));
        PromiseCheck.due("isParallel(2)", true, loom.isParallel(2));
        loom.script('s', 0, 1, 1);
        PromiseCheck.due("isParallel(1) behind i + j", true, loom.isParallel(1));
        PromiseCheck.refused("isParallel(3)", IllegalArgumentException.class, () -> loom.isParallel(3));
        PromiseCheck.refused("isParallel(-1)", IllegalArgumentException.class, () -> loom.isParallel(-1));
    }

    private static void promise26Band() {
        Polyloom loom = PromiseCheck.stencil();
        PromiseCheck.due("band(0)", 3, loom.band(0));
        PromiseCheck.due("band(1)", 2, loom.band(1));
        PromiseCheck.due("band(2)", 1, loom.band(2));
        loom.script('r', 1, 0, 0);
        PromiseCheck.due("band(0) by i, -j", 1, loom.band(0));
        PromiseCheck.due("band(1) by i, -j", 0, loom.band(1));
        PromiseCheck.due("band(2) by i, -j", 1, loom.band(2));
        loom.script('s', 0, 1, -1);
        PromiseCheck.due("band(0) by i + j, -j", 1, loom.band(0));
        PromiseCheck.due("band(1) by i + j, -j: all is carried", 2, loom.band(1));
        loom.script('x', 0, 1, 0);
        PromiseCheck.due("band(0) by -j, i + j", 0, loom.band(0));
        PromiseCheck.due("band(1) by -j, i + j: what is carried backwards, too", 2, loom.band(1));
        PromiseCheck.refused("band(3)", IllegalArgumentException.class, () -> loom.band(3));
        PromiseCheck.refused("band(-1)", IllegalArgumentException.class, () -> loom.band(-1));
    }

    private static void dueRow(Polyloom loom, int statement, int row, int... want) {
        for (int number = 0; number < 6; number++) {
            int due = number == 5 ? 1 : number < want.length ? want[number] : 0;
            PromiseCheck.due("found row " + row + " of " + statement + ", number " + number, due, loom.row(statement, row, number));
        }
    }

    private static void promise27Find() {
        Polyloom loom = PromiseCheck.stencil();
        PromiseCheck.due("find()", 2, loom.find());
        dueRow(loom, 0, 0, 0, 1);
        dueRow(loom, 0, 1, 1, 0);
        // Needs of (1, -1), which keep j from being first, and of (0, 1).
        Polyloom skewed = new Polyloom();
        skewed.statement(2);
        PromiseCheck.write(skewed, 0, 0, 1);
        PromiseCheck.second(skewed, 0, 0, 1);
        PromiseCheck.read(skewed, 0, 0, 1, 0, 0, 0, -1);
        PromiseCheck.second(skewed, 0, 0, 1, 0, 0, 1);
        PromiseCheck.read(skewed, 0, 0, 1);
        PromiseCheck.second(skewed, 0, 0, 1, 0, 0, -1);
        PromiseCheck.due("find() of what goes back by j", 2, skewed.find());
        dueRow(skewed, 0, 0, 1, 0);
        dueRow(skewed, 0, 1, 0, 1);
        PromiseCheck.due("legal", true, skewed.isLegal());
        Polyloom deep = new Polyloom();
        deep.statement(3);
        deep.statement(2);
        deep.statement(1);
        PromiseCheck.write(deep, 0, 0, 1);
        PromiseCheck.second(deep, 0, 0, 10, 1);
        PromiseCheck.read(deep, 0, 0, 1);
        PromiseCheck.second(deep, 0, 0, 10, 1, 0, -1);
        PromiseCheck.due("find() of three depths, needs by k alone", 3, deep.find());
        PromiseCheck.due("legal", true, deep.isLegal());
        dueRow(deep, 0, 0, -1, 0, 0);
        dueRow(deep, 0, 1, 0, -1, 0);
        dueRow(deep, 0, 2, 0, 0, 1);
        dueRow(deep, 1, 0, -1, 0, 0);
        dueRow(deep, 1, 1, 0, -1, 0);
        dueRow(deep, 1, 2, 0, 0, 0);
        dueRow(deep, 2, 0, -1, 0, 0);
        dueRow(deep, 2, 1, 0, 0, 0);
    }

    private static void promise27FindTies() {
        Polyloom loom = new Polyloom();
        loom.statement(3);
        PromiseCheck.due("find() without needs", 3, loom.find());
        dueRow(loom, 0, 0, -1, 0, 0);
        dueRow(loom, 0, 1, 0, -1, 0);
        dueRow(loom, 0, 2, 0, 0, -1);
        Polyloom two = new Polyloom();
        two.statement(2);
        two.statement(1);
        PromiseCheck.due("find() without needs of two depths", 2, two.find());
        dueRow(two, 0, 0, -1, 0);
        dueRow(two, 0, 1, 0, -1);
        dueRow(two, 1, 0, -1);
        dueRow(two, 1, 1, 0);
        Polyloom one = new Polyloom();
        one.statement(1);
        PromiseCheck.write(one, 0, 0, 0);
        PromiseCheck.due("find() of one depth", 1, one.find());
        dueRow(one, 0, 0, 1);
        // The needs go from (0, 2) to (1, 0), by which 2 i + j stays as it is.
        Polyloom far = new Polyloom();
        far.statement(2);
        PromiseCheck.range(far, 0, 0, 0, 1);
        PromiseCheck.range(far, 0, 1, 0, 2);
        PromiseCheck.write(far, 0, 0, 2, 1);
        PromiseCheck.read(far, 0, 0, 2, 1, 0, 0, 0);
        PromiseCheck.due("find() of (1, -2) and more", 2, far.find());
        dueRow(far, 0, 0, 2, 1);
        dueRow(far, 0, 1, 1, 0);
    }

    private static void promise27FindRefused() {
        PromiseCheck.refused("find() without statements", NoSuchElementException.class, () -> new Polyloom().find());
        Polyloom loom = new Polyloom();
        loom.statement(1);
        loom.statement(1);
        // Statement 0 at 3 - i and 1 at i: from 0 to 3 and from 3 to 0, so that neither way goes.
        PromiseCheck.write(loom, 0, 0, 1);
        PromiseCheck.read(loom, 1, 0, -1, 0, 0, 1, -1);
        loom.script('r', 0, 0, 0);
        PromiseCheck.refused("find() of what goes both ways", NoSuchElementException.class, () -> loom.find());
        PromiseCheck.due("the rows still", -1, loom.row(0, 0, 0));
        PromiseCheck.due("how many rows still", 3, loom.rows());
        // With a depth of 2 there is j to go by, then none.
        Polyloom half = new Polyloom();
        half.statement(2);
        half.statement(2);
        PromiseCheck.write(half, 0, 0, 1);
        PromiseCheck.second(half, 0, 0, 1);
        PromiseCheck.read(half, 1, 0, -1, 0, 0, 1, -1);
        PromiseCheck.second(half, 1, 0, 1);
        PromiseCheck.due("find() of j alone", 1, half.find());
        dueRow(half, 0, 0, 0, -1);
        PromiseCheck.due("legal", true, half.isLegal());
    }

    private static void tooMany() {
        Polyloom loom = PromiseCheck.crowded();
        PromiseCheck.refused("needs of too many", IllegalStateException.class, () -> loom.needs('f'));
        PromiseCheck.refused("needs('g') of too many", IllegalArgumentException.class, () -> loom.needs('g'));
        PromiseCheck.refused("need of too many", IllegalStateException.class, () -> loom.need(-1, 's'));
        PromiseCheck.refused("need's z of too many", IllegalArgumentException.class, () -> loom.need(-1, 'z'));
        PromiseCheck.due("script of too many", 4, loom.script('t', 0, 3, 0));
        PromiseCheck.due("reset of too many", 4, loom.reset());
        PromiseCheck.refused("isLegal of too many", IllegalStateException.class, () -> loom.isLegal());
        PromiseCheck.refused("broken of too many", IllegalStateException.class, () -> loom.broken());
        PromiseCheck.refused("carried of too many", IllegalStateException.class, () -> loom.carried(0));
        PromiseCheck.refused("carried(3) of too many", IllegalArgumentException.class, () -> loom.carried(3));
        PromiseCheck.refused("isParallel of too many", IllegalStateException.class, () -> loom.isParallel(0));
        PromiseCheck.refused("isParallel(3) of too many", IllegalArgumentException.class, () -> loom.isParallel(3));
        PromiseCheck.refused("band of too many", IllegalStateException.class, () -> loom.band(0));
        PromiseCheck.refused("band(3) of too many", IllegalArgumentException.class, () -> loom.band(3));
        PromiseCheck.refused("find of too many", IllegalStateException.class, () -> loom.find());
    }
}
