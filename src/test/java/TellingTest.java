/** Promises 1 to 11: expressions and statements. */
public final class TellingTest {
    public static void main(String[] args) {
        promise1NewObject();
        promise2Type();
        promise3ClearRow();
        promise4Parameter();
        promise5Statement();
        promise6Bound();
        promise6BoundRefused();
        promise7Guard();
        promise8Place();
        promise9Access();
        promise9AccessRefused();
        promise9Second();
        promise10Unknown();
        promise11Reduction();
        PromiseCheck.end("TellingTest");
    }

    private static void promise1NewObject() {
        Polyloom loom = new Polyloom();
        PromiseCheck.due("rows() of a new loom", 3, loom.rows());
        PromiseCheck.due("needs('f') of a new loom", 0, loom.needs('f'));
        PromiseCheck.due("pieces() of a new loom", 0, loom.pieces());
        PromiseCheck.due("checksum() of a new loom", 17L, loom.checksum());
        PromiseCheck.due("isSame() of a new loom", true, loom.isSame());
        PromiseCheck.due("isLegal() of a new loom", true, loom.isLegal());
        PromiseCheck.due("isConsistent() of a new loom", true, loom.isConsistent());
        PromiseCheck.due("reset() of a new loom", 3, loom.reset());
        PromiseCheck.due("band(0) of a new loom", 3, loom.band(0));
        PromiseCheck.due("carried(2) of a new loom", 0, loom.carried(2));
        PromiseCheck.due("cell of a new loom", 102 + 7, loom.cell(1, 1, 2, true));
        PromiseCheck.due("storage of a new loom", 1, loom.storage(3));
        PromiseCheck.due("parameter at first", 4, loom.parameter(4));
        PromiseCheck.due("clearRow() of a new loom", 0, loom.clearRow());
        PromiseCheck.refused("count(0) of a new loom", IndexOutOfBoundsException.class, () -> loom.count(0));
        PromiseCheck.due("the first statement", 0, loom.statement(1));
    }

    private static void promise2Type() {
        Polyloom loom = new Polyloom();
        PromiseCheck.refused("type(21)", IllegalArgumentException.class, () -> loom.type(21));
        PromiseCheck.refused("type(-21)", IllegalArgumentException.class, () -> loom.type(-21));
        PromiseCheck.refused("type of the least int", IllegalArgumentException.class, () -> loom.type(Integer.MIN_VALUE));
        PromiseCheck.due("type(20)", 1, loom.type(20));
        PromiseCheck.due("type(-20)", 2, loom.type(-20));
        PromiseCheck.due("type(0)", 3, loom.type(0));
        PromiseCheck.due("type(1), the fourth", 4, loom.type(1));
        PromiseCheck.due("type(2), the fifth", 5, loom.type(2));
        PromiseCheck.refused("type, the sixth", IllegalStateException.class, () -> loom.type(1));
        PromiseCheck.refused("type(21), the sixth", IllegalArgumentException.class, () -> loom.type(21));
        PromiseCheck.due("clearRow() behind five", 5, loom.clearRow());
    }

    private static void promise3ClearRow() {
        Polyloom loom = new Polyloom();
        loom.statement(1);
        PromiseCheck.type(loom, 1, 2, 3);
        PromiseCheck.due("clearRow()", 3, loom.clearRow());
        PromiseCheck.due("clearRow() of nothing", 0, loom.clearRow());
        PromiseCheck.due("type behind clearRow()", 1, loom.type(0));
        // The numbers 2 and 3 that were cleared must not come back in what was not typed.
        PromiseCheck.due("bound behind clearRow()", 1, loom.bound(0, 0, false));
        PromiseCheck.due("count behind clearRow()", 1, loom.count(0));
    }

    private static void promise4Parameter() {
        Polyloom loom = new Polyloom();
        loom.statement(1);
        PromiseCheck.due("count by the first parameter", 4, loom.count(0));
        PromiseCheck.due("parameter(30)", 4, loom.parameter(30));
        PromiseCheck.due("count by 30", 30, loom.count(0));
        PromiseCheck.due("parameter(0)", 30, loom.parameter(0));
        PromiseCheck.due("count by 0", 0, loom.count(0));
        PromiseCheck.refused("parameter(31)", IllegalArgumentException.class, () -> loom.parameter(31));
        PromiseCheck.refused("parameter(-1)", IllegalArgumentException.class, () -> loom.parameter(-1));
        PromiseCheck.due("parameter(7) behind refusals", 0, loom.parameter(7));
    }

    private static void promise5Statement() {
        Polyloom loom = new Polyloom();
        PromiseCheck.refused("statement(0)", IllegalArgumentException.class, () -> loom.statement(0));
        PromiseCheck.refused("statement(4)", IllegalArgumentException.class, () -> loom.statement(4));
        PromiseCheck.due("statement(3)", 0, loom.statement(3));
        PromiseCheck.due("script", 4, loom.script('t', 0, 2, 0));
        PromiseCheck.due("script", 4, loom.script('c', 0, 2, 7));
        PromiseCheck.due("statement(1)", 1, loom.statement(1));
        PromiseCheck.due("rows behind a new statement", 3, loom.rows());
        PromiseCheck.due("size behind a new statement", 1, loom.row(0, 0, 5));
        PromiseCheck.due("number behind a new statement", 0, loom.row(0, 1, 4));
        PromiseCheck.due("row 1 of depth 1", 0, loom.row(1, 1, 1));
        PromiseCheck.due("row 0 of depth 1", 1, loom.row(1, 0, 0));
        PromiseCheck.due("statement(2)", 2, loom.statement(2));
        PromiseCheck.due("row 1 of depth 2", 1, loom.row(2, 1, 1));
        PromiseCheck.due("row 2 of depth 2", 0, loom.row(2, 2, 2));
        PromiseCheck.due("row 2 of depth 3", 1, loom.row(0, 2, 2));
        loom.statement(1);
        PromiseCheck.due("the fifth statement", 4, loom.statement(1));
        PromiseCheck.refused("the sixth statement", IllegalStateException.class, () -> loom.statement(1));
        PromiseCheck.refused("the sixth, of depth 4", IllegalArgumentException.class, () -> loom.statement(4));
    }

    private static void promise6Bound() {
        Polyloom loom = new Polyloom();
        loom.statement(3);
        PromiseCheck.due("count without bounds", 64, loom.count(0));
        PromiseCheck.type(loom, 0, 0, 0, 0, 1);
        PromiseCheck.due("a lower bound", 1, loom.bound(0, 0, true));
        PromiseCheck.due("the expression behind it", 0, loom.clearRow());
        PromiseCheck.type(loom, 0, 0, 0, 0, 2);
        PromiseCheck.due("a second lower bound", 2, loom.bound(0, 0, true));
        PromiseCheck.due("i from the greatest lower one", 2, loom.point(0, 0, 0));
        PromiseCheck.type(loom, 0, 0, 0, 2);
        PromiseCheck.due("an upper bound", 1, loom.bound(0, 0, false));
        PromiseCheck.type(loom, 0, 0, 0, 1, 1);
        PromiseCheck.due("a second upper bound", 2, loom.bound(0, 0, false));
        PromiseCheck.due("count with i from 2 to 5", 4 * 16, loom.count(0));
        loom.type(1);
        PromiseCheck.due("a lower bound of j by i", 1, loom.bound(0, 1, true));
        PromiseCheck.due("count with j from i to 3", (2 + 1) * 4, loom.count(0));
        PromiseCheck.type(loom, 1, -1);
        PromiseCheck.due("an upper bound of k by i and j", 1, loom.bound(0, 2, false));
        PromiseCheck.due("count with k to i - j", 2, loom.count(0));
        PromiseCheck.type(loom, 0, 0, 0, 0, -2);
        PromiseCheck.due("a lower bound of k below 0", 1, loom.bound(0, 2, true));
        PromiseCheck.due("count with k from -2 to i - j", 3 + 2 + 3, loom.count(0));
        PromiseCheck.due("the last k", -1, loom.point(0, 4, 2));
    }

    private static void promise6BoundRefused() {
        Polyloom loom = new Polyloom();
        loom.statement(2);
        PromiseCheck.refused("bound of no statement", IndexOutOfBoundsException.class, () -> loom.bound(1, 0, true));
        PromiseCheck.refused("bound of statement -1", IndexOutOfBoundsException.class, () -> loom.bound(-1, 0, true));
        PromiseCheck.refused("bound of iterator 2", IndexOutOfBoundsException.class, () -> loom.bound(0, 2, true));
        PromiseCheck.refused("bound of iterator -1", IndexOutOfBoundsException.class, () -> loom.bound(0, -1, true));
        PromiseCheck.refused("bound of nothing", UnsupportedOperationException.class, () -> loom.bound(0, 0, true));
        loom.type(1);
        PromiseCheck.refused("bound of i by i", IllegalArgumentException.class, () -> loom.bound(0, 0, true));
        PromiseCheck.refused("bound of k by i", IndexOutOfBoundsException.class, () -> loom.bound(0, 2, true));
        PromiseCheck.due("the expression stays", 1, loom.clearRow());
        PromiseCheck.type(loom, 0, 1);
        PromiseCheck.refused("bound of j by j", IllegalArgumentException.class, () -> loom.bound(0, 1, false));
        PromiseCheck.refused("bound of i by j", IllegalArgumentException.class, () -> loom.bound(0, 0, false));
        loom.clearRow();
        PromiseCheck.type(loom, 0, 0, 1);
        PromiseCheck.refused("bound of j by k", IllegalArgumentException.class, () -> loom.bound(0, 1, false));
        loom.clearRow();
        PromiseCheck.range(loom, 0, 1, 0, 3);
        PromiseCheck.range(loom, 0, 1, 0, 3);
        PromiseCheck.refused("a third bound of nothing", UnsupportedOperationException.class, () -> loom.bound(0, 1, true));
        loom.type(0);
        PromiseCheck.refused("a third lower bound", IllegalStateException.class, () -> loom.bound(0, 1, true));
        PromiseCheck.refused("a third upper bound", IllegalStateException.class, () -> loom.bound(0, 1, false));
        PromiseCheck.due("the expression stays then", 2, loom.type(1));
        PromiseCheck.refused("a third bound by j", IllegalArgumentException.class, () -> loom.bound(0, 1, false));
    }

    private static void promise7Guard() {
        Polyloom loom = new Polyloom();
        loom.statement(2);
        PromiseCheck.refused("guard of no statement", IndexOutOfBoundsException.class, () -> loom.guard(1, 0));
        PromiseCheck.refused("guard of statement -1", IndexOutOfBoundsException.class, () -> loom.guard(-1, 10));
        PromiseCheck.refused("guard of nothing", UnsupportedOperationException.class, () -> loom.guard(0, 0));
        PromiseCheck.refused("guard modulo 1", IllegalArgumentException.class, () -> loom.guard(0, 1));
        PromiseCheck.refused("guard modulo 10", IllegalArgumentException.class, () -> loom.guard(0, 10));
        PromiseCheck.refused("guard modulo -1", IllegalArgumentException.class, () -> loom.guard(0, -1));
        PromiseCheck.type(loom, 0, 0, 1);
        PromiseCheck.refused("guard by k", IllegalArgumentException.class, () -> loom.guard(0, 0));
        loom.clearRow();
        PromiseCheck.type(loom, 1, -1);
        PromiseCheck.due("guard i - j >= 0", 1, loom.guard(0, 0));
        PromiseCheck.due("the expression behind it", 0, loom.clearRow());
        PromiseCheck.due("count with j to i", 10, loom.count(0));
        PromiseCheck.type(loom, 1, -2, 0, 0, -1);
        PromiseCheck.due("guard (i - 2 j - 1) mod 9", 2, loom.guard(0, 9));
        PromiseCheck.due("count with i = 2 j + 1, or 9 off", 2, loom.count(0));
        PromiseCheck.due("the second point's i", 3, loom.point(0, 1, 0));
        PromiseCheck.refused("a third guard of nothing", UnsupportedOperationException.class, () -> loom.guard(0, 2));
        loom.type(1);
        PromiseCheck.refused("a third guard", IllegalStateException.class, () -> loom.guard(0, 2));
        PromiseCheck.refused("a third guard modulo 1", IllegalArgumentException.class, () -> loom.guard(0, 1));
        PromiseCheck.due("the expression stays", 1, loom.clearRow());
        loom.statement(1);
        PromiseCheck.type(loom, 1, 0, 0, 0, -3);
        PromiseCheck.due("guard (i - 3) mod 2", 1, loom.guard(1, 2));
        PromiseCheck.due("odd numbers, below 0 too", 2, loom.count(1));
        PromiseCheck.type(loom, 0, 1);
        PromiseCheck.refused("guard by j", IllegalArgumentException.class, () -> loom.guard(1, 2));
    }

    private static void promise8Place() {
        Polyloom loom = new Polyloom();
        loom.statement(2);
        loom.statement(1);
        PromiseCheck.due("the place 0 at first", 1, loom.place(1, 0, 0));
        PromiseCheck.due("the place 0 then", 0, loom.place(1, 0, 9));
        PromiseCheck.due("the place 0 then", 9, loom.place(1, 0, 0));
        PromiseCheck.due("the place 1 at first", 0, loom.place(0, 1, 2));
        PromiseCheck.due("the place 1 then", 2, loom.place(0, 1, 1));
        PromiseCheck.due("the place 2 at first", 0, loom.place(0, 2, 3));
        PromiseCheck.due("the place 2 then", 3, loom.place(0, 2, 0));
        PromiseCheck.refused("place of no statement", IndexOutOfBoundsException.class, () -> loom.place(2, 0, 0));
        PromiseCheck.refused("place of statement -1", IndexOutOfBoundsException.class, () -> loom.place(-1, 5, 0));
        PromiseCheck.refused("place 3", IllegalArgumentException.class, () -> loom.place(0, 3, 0));
        PromiseCheck.refused("place -1", IllegalArgumentException.class, () -> loom.place(0, -1, 0));
        PromiseCheck.refused("place of 10", IllegalArgumentException.class, () -> loom.place(0, 0, 10));
        PromiseCheck.refused("place of -1", IllegalArgumentException.class, () -> loom.place(0, 0, -1));
        // Both have the place 0 of 0 now: i comes ahead of the place 1, and statement 1 has the lesser one.
        PromiseCheck.due("the first point's statement", 1, loom.first(3));
    }

    private static void promise9Access() {
        Polyloom loom = new Polyloom();
        loom.statement(1);
        loom.type(1);
        PromiseCheck.due("a write", 1, loom.access(0, 3, true, false));
        PromiseCheck.due("the expression behind it", 0, loom.clearRow());
        loom.type(1);
        PromiseCheck.due("a read", 2, loom.access(0, 0, false, false));
        loom.type(1);
        PromiseCheck.due("another read", 3, loom.access(0, 1, false, false));
        loom.type(1);
        PromiseCheck.due("a third read", 4, loom.access(0, 2, false, false));
        PromiseCheck.due("what is written", 31 * (100 + 2 * 107 + 3 * 114) + 1 - 2 * 10007, loom.cell(3, 1, 0, true));
        loom.unknown(0, 3, true);
        loom.type(2);
        PromiseCheck.due("another write", 4, loom.access(0, 0, true, false));
        PromiseCheck.due("another write is not unknown", false, loom.unknown(0, 3, false));
        PromiseCheck.due("the one before is forgotten", 121, loom.cell(3, 1, 0, true));
        PromiseCheck.due("what is written at (2, 0)", 31 * (100 + 2 * 107 + 3 * 114) + 1 - 2 * 10007, loom.cell(0, 2, 0, false));
    }

    private static void promise9Second() {
        Polyloom loom = new Polyloom();
        loom.statement(1);
        PromiseCheck.refused("a second number of nothing", UnsupportedOperationException.class, () -> loom.access(0, 0, false, true));
        loom.type(1);
        PromiseCheck.refused("a second number of no access", UnsupportedOperationException.class, () -> loom.access(0, 0, false, true));
        PromiseCheck.due("a write", 1, loom.access(0, 0, true, false));
        loom.type(2);
        PromiseCheck.due("its second number, array and write without meaning", 1, loom.access(0, -7, false, true));
        PromiseCheck.due("what is written at (1, 2)", 1, loom.cell(0, 1, 2, false));
        loom.type(3);
        PromiseCheck.due("the second number once more", 1, loom.access(0, 99, true, true));
        PromiseCheck.due("what is written at (1, 3)", 1, loom.cell(0, 1, 3, false));
        PromiseCheck.due("what is not written at (1, 2)", 102, loom.cell(0, 1, 2, false));
        PromiseCheck.read(loom, 0, 1, 1);
        PromiseCheck.second(loom, 0, 1);
        PromiseCheck.read(loom, 0, 1, 1);
        PromiseCheck.read(loom, 0, 1, 1);
        loom.type(2);
        PromiseCheck.due("a second number with 3 reads", 4, loom.access(0, 0, false, true));
        PromiseCheck.due("what is written out of (1, 1), (1, 0), (1, 2)",
            (31 * (108 + 2 * 107 + 3 * 109) + 1) % 10007, loom.cell(0, 1, 3, false));
        PromiseCheck.write(loom, 0, 0, 1);
        PromiseCheck.due("a write told anew has a second number of 0",
            (31 * (108 + 2 * 107 + 3 * 109) + 1) % 10007, loom.cell(0, 1, 0, false));
    }

    private static void promise9AccessRefused() {
        Polyloom loom = new Polyloom();
        loom.statement(2);
        PromiseCheck.refused("access of no statement", IndexOutOfBoundsException.class, () -> loom.access(1, 9, true, false));
        PromiseCheck.refused("access of statement -1", IndexOutOfBoundsException.class, () -> loom.access(-1, 0, true, false));
        PromiseCheck.refused("access of array 4", IllegalArgumentException.class, () -> loom.access(0, 4, true, false));
        PromiseCheck.refused("access of array -1", IllegalArgumentException.class, () -> loom.access(0, -1, false, false));
        PromiseCheck.refused("access of nothing", UnsupportedOperationException.class, () -> loom.access(0, 0, true, false));
        PromiseCheck.type(loom, 0, 0, 1);
        PromiseCheck.refused("access by k", IllegalArgumentException.class, () -> loom.access(0, 0, true, false));
        PromiseCheck.refused("second number by k", IllegalArgumentException.class, () -> loom.access(0, 0, true, true));
        PromiseCheck.due("the expression stays", 3, loom.clearRow());
        for (int reads = 0; reads < 3; reads++) {
            PromiseCheck.read(loom, 0, 3, 1);
        }
        PromiseCheck.refused("a fourth read of nothing", UnsupportedOperationException.class, () -> loom.access(0, 0, false, false));
        loom.type(1);
        PromiseCheck.refused("a fourth read", IllegalStateException.class, () -> loom.access(0, 0, false, false));
        PromiseCheck.refused("a fourth read of array 4", IllegalArgumentException.class, () -> loom.access(0, 4, false, false));
        PromiseCheck.due("a write with 3 reads", 4, loom.access(0, 0, true, false));
    }

    private static void promise10Unknown() {
        Polyloom loom = new Polyloom();
        loom.statement(1);
        PromiseCheck.refused("unknown without accesses", IndexOutOfBoundsException.class, () -> loom.unknown(0, 0, true));
        PromiseCheck.refused("unknown without a write", IndexOutOfBoundsException.class, () -> loom.unknown(0, 3, true));
        PromiseCheck.read(loom, 0, 0, 1, 0, 0, 0, 10);
        PromiseCheck.refused("unknown of read 1", IndexOutOfBoundsException.class, () -> loom.unknown(0, 1, true));
        PromiseCheck.refused("unknown of read -1", IndexOutOfBoundsException.class, () -> loom.unknown(0, -1, true));
        PromiseCheck.write(loom, 0, 0, 1);
        PromiseCheck.refused("unknown of access 4", IndexOutOfBoundsException.class, () -> loom.unknown(0, 4, true));
        PromiseCheck.refused("unknown of read 2", IndexOutOfBoundsException.class, () -> loom.unknown(0, 2, true));
        PromiseCheck.refused("unknown of no statement", IndexOutOfBoundsException.class, () -> loom.unknown(1, 0, true));
        PromiseCheck.due("no needs yet", 0, loom.needs('f') + loom.needs('a') + loom.needs('o'));
        PromiseCheck.due("unknown of a read", false, loom.unknown(0, 0, true));
        PromiseCheck.due("each pair by f", 6, loom.needs('f'));
        PromiseCheck.due("each pair by a", 6, loom.needs('a'));
        PromiseCheck.due("no pair by o", 0, loom.needs('o'));
        PromiseCheck.due("unknown of the write", false, loom.unknown(0, 3, true));
        PromiseCheck.due("each pair by o", 6, loom.needs('o'));
        PromiseCheck.due("when run, it is as told", 31 * (1100 - 1009) + 1, loom.cell(0, 1, 0, true));
        PromiseCheck.due("no longer unknown", true, loom.unknown(0, 0, false));
        PromiseCheck.due("each pair by f still", 6, loom.needs('f'));
        PromiseCheck.due("no longer unknown, the write", true, loom.unknown(0, 3, false));
        PromiseCheck.due("no needs again", 0, loom.needs('f') + loom.needs('a') + loom.needs('o'));
        PromiseCheck.due("unknown was not", false, loom.unknown(0, 3, false));
    }

    private static void promise11Reduction() {
        Polyloom loom = new Polyloom();
        loom.statement(2);
        PromiseCheck.write(loom, 0, 0, 1);
        PromiseCheck.second(loom, 0, 1);
        PromiseCheck.read(loom, 0, 0, 1);
        PromiseCheck.read(loom, 0, 1, 0, 1);
        PromiseCheck.due("reduction told", false, loom.reduction(0, true));
        PromiseCheck.refused("reduction of no statement", IndexOutOfBoundsException.class, () -> loom.reduction(1, true));
        PromiseCheck.refused("reduction of statement -1", IndexOutOfBoundsException.class, () -> loom.reduction(-1, true));
        // It reads (i, 0), but writes (i, i): told so, it is none.
        PromiseCheck.due("needs of what is no reduction", 15, loom.needs('o') + loom.needs('f'));
        PromiseCheck.write(loom, 0, 0, 1);
        PromiseCheck.due("needs of a reduction", 0, loom.needs('o') + loom.needs('f') + loom.needs('a'));
        PromiseCheck.due("what a reduction leaves", 100 + 4 + 3 * (7 + 107 + 207 + 307), loom.cell(0, 1, 0, true));
        PromiseCheck.due("reduction told no more", true, loom.reduction(0, false));
        PromiseCheck.due("needs then", 12 * 3, loom.needs('o') + loom.needs('f') + loom.needs('a'));
        PromiseCheck.due("reduction was not told", false, loom.reduction(0, false));
    }
}
