/** Promises 40 to 43: figures. */
public final class FiguresTest {
    public static void main(String[] args) {
        promise40Checksum();
        promise41ParallelShare();
        promise42MeanReuse();
        promise43IsConsistent();
        tooMany();
        PromiseCheck.end("FiguresTest");
    }

    private static void promise40Checksum() {
        Polyloom loom = new Polyloom();
        PromiseCheck.due("checksum() of nothing", 17L, loom.checksum());
        loom.statement(1);
        loom.parameter(1);
        PromiseCheck.due("checksum() of (0) that writes nothing", 31L * 17, loom.checksum());
        loom.parameter(2);
        PromiseCheck.due("checksum() of (0), (1)", 31L * (31 * 17) + 7, loom.checksum());
        loom.script('r', 0, 0, 0);
        PromiseCheck.due("checksum() of (1), (0)", 31L * (31 * 17 + 7), loom.checksum());
        PromiseCheck.write(loom, 0, 0, 1);
        PromiseCheck.due("checksum() with writes of 1", 31L * (31 * 17 + 7 + 3) + 3, loom.checksum());
        loom.statement(3);
        PromiseCheck.range(loom, 1, 0, 2, 2);
        PromiseCheck.range(loom, 1, 1, -3, -3);
        PromiseCheck.range(loom, 1, 2, 5, 5);
        PromiseCheck.read(loom, 1, 3, 0);
        // As at first: (0), (1) of statement 0, then (2, -3, 5) of statement 1, that writes nothing.
        long two = 31L * (31 * 17 + 3) + 7 + 3;
        PromiseCheck.due("checksum() with statement 1", 31 * two + 1 + 7 * 4, loom.checksum());
        PromiseCheck.write(loom, 1, 3, 0);
        PromiseCheck.due("checksum() with a read of 21", 31 * two + 1 + 7 * 4 + 3 * (31 * 21 + 2), loom.checksum());
    }

    private static void promise41ParallelShare() {
        Polyloom loom = PromiseCheck.stencil();
        PromiseCheck.due("parallelShare() of 1 in 3", 1.0f / 3.0f, loom.parallelShare());
        loom.script('s', 0, 1, 1);
        PromiseCheck.due("parallelShare() of 2 in 3", 2.0f / 3.0f, loom.parallelShare());
        loom.script('n', 0, 0, 0);
        PromiseCheck.due("parallelShare() of 3 in 4", 0.75f, loom.parallelShare());
        loom.find();
        PromiseCheck.due("parallelShare() of none in 2", 0.0f, loom.parallelShare());
        loom.parameter(1);
        PromiseCheck.refused("parallelShare() without points", ArithmeticException.class, () -> loom.parallelShare());
        PromiseCheck.refused("parallelShare() of nothing", ArithmeticException.class, () -> new Polyloom().parallelShare());
    }

    private static void promise42MeanReuse() {
        Polyloom loom = PromiseCheck.stencil();
        loom.parameter(3);
        // (1,1): reads 01, 10, writes 11; (1,2): 02, 11, 12; (2,1): 11, 20, 21; (2,2): 12, 21, 22.
        // 11 comes again behind 02: 1; then behind 12: 1; 12 behind 11, 20, 21: 3; 21 behind 12: 1.
        PromiseCheck.due("meanReuse()", 6.0 / 4.0, loom.meanReuse());
        loom.script('x', 0, 1, 0);
        PromiseCheck.due("meanReuse() by j", 6.0 / 4.0, loom.meanReuse());
        Polyloom one = new Polyloom();
        one.statement(1);
        PromiseCheck.write(one, 0, 0, 1);
        PromiseCheck.refused("meanReuse() of cells touched once", ArithmeticException.class, () -> one.meanReuse());
        PromiseCheck.refused("meanReuse() of nothing", ArithmeticException.class, () -> new Polyloom().meanReuse());
        PromiseCheck.read(one, 0, 0, 1);
        PromiseCheck.due("meanReuse() of cells written behind a read", 0.0, one.meanReuse());
        PromiseCheck.read(one, 0, 1, 1);
        PromiseCheck.due("meanReuse() of cells written behind two reads", 1.0, one.meanReuse());
        one.unknown(0, 0, true);
        PromiseCheck.due("meanReuse() with an unknown read", 1.0, one.meanReuse());
    }

    private static void promise43IsConsistent() {
        PromiseCheck.due("isConsistent() of nothing", true, new Polyloom().isConsistent());
        Polyloom loom = PromiseCheck.stencil();
        PromiseCheck.due("isConsistent()", true, loom.isConsistent());
        loom.script('r', 0, 0, 0);
        PromiseCheck.due("isConsistent() of what is not legal", true, loom.isConsistent());
        loom.find();
        PromiseCheck.due("isConsistent() of what is found", true, loom.isConsistent());
        Polyloom reducing = new Polyloom();
        reducing.statement(1);
        PromiseCheck.write(reducing, 0, 0, 0);
        PromiseCheck.read(reducing, 0, 0, 0);
        PromiseCheck.read(reducing, 0, 1, 1);
        reducing.reduction(0, true);
        reducing.script('r', 0, 0, 0);
        PromiseCheck.due("isConsistent() of a reduction backwards", true, reducing.isConsistent());
        // Statement 1, a reduction, is done together with its reader by turns, which the needs do not tell.
        Polyloom split = new Polyloom();
        split.statement(1);
        PromiseCheck.write(split, 0, 0, 0);
        PromiseCheck.read(split, 0, 0, 0);
        PromiseCheck.read(split, 0, 1, 1);
        split.reduction(0, true);
        split.statement(1);
        PromiseCheck.range(split, 1, 0, 3, 3);
        PromiseCheck.read(split, 1, 0, 0);
        PromiseCheck.write(split, 1, 2, 0);
        split.script('r', 0, 0, 0);
        split.script('c', 1, 0, 1);
        PromiseCheck.due("legal by the last of the reduction alone", true, split.isLegal());
        PromiseCheck.due("not the same", false, split.isSame());
        PromiseCheck.due("isConsistent() with a reduction", true, split.isConsistent());
    }

    private static void tooMany() {
        Polyloom loom = PromiseCheck.crowded();
        PromiseCheck.refused("checksum of too many", IllegalStateException.class, () -> loom.checksum());
        PromiseCheck.refused("parallelShare of too many", IllegalStateException.class, () -> loom.parallelShare());
        PromiseCheck.refused("meanReuse of too many", IllegalStateException.class, () -> loom.meanReuse());
        PromiseCheck.refused("isConsistent of too many", IllegalStateException.class, () -> loom.isConsistent());
    }
}
