/** Promises 40 to 43 at their limits, and the last of 512 calls; and what a refused call leaves behind: nothing. */
public final class FiguresEdgesTest {
    public static void main(String[] args) {
        promise40NoneAndOne();
        promise40WrapsAround();
        promise41ParallelShare();
        promise42MeanReuse();
        promise43IsConsistent();
        promise43Reduction();
        lastCalls();
        PromiseCheck.end("FiguresEdgesTest");
    }

    private static void noPoints(Polyloom loom) {
        TwinCheck.stencil(loom);
        loom.parameter(1);
    }

    private static void promise40NoneAndOne() {
        TwinCheck.asked("checksum of nothing", 17L, TwinCheck::nothing, l -> l.checksum());
        TwinCheck.asked("checksum of no points", 17L, FiguresEdgesTest::noPoints, l -> l.checksum());
        TwinCheck.refused("checksum of too many", TwinCheck.STATE, TwinCheck::crowded, l -> l.checksum());
        TwinCheck.refused("checksum of too many numbers, but no points", TwinCheck.STATE, TwinCheck::crowdedWithoutPoints, l -> l.checksum());
        for (int s = 0; s < 5; s++) {
            Polyloom loom = new Polyloom();
            for (int t = 0; t <= s; t++) {
                loom.statement(3);
                PromiseCheck.range(loom, t, 0, 1, t == s ? 1 : 0);
            }
            PromiseCheck.range(loom, s, 1, -20, -20);
            PromiseCheck.range(loom, s, 2, 4, 4);
            PromiseCheck.due("checksum of one point of " + s, 31L * 17 + s + 7 * (1 - 20 + 4), loom.checksum());
            PromiseCheck.write(loom, s, 0, 0);
            PromiseCheck.due("checksum of one point of " + s + " that writes", 31L * 17 + s + 7 * (1 - 20 + 4) + 3 * (s + 1), loom.checksum());
        }
    }

    /** 31 times itself goes beyond all longs with 12 points or so, and wraps around. */
    private static void promise40WrapsAround() {
        Polyloom loom = new Polyloom();
        loom.statement(1);
        long due = 17;
        boolean hasBeenBelow = false;
        for (int parameter = 1; parameter <= 30; parameter++) {
            loom.parameter(parameter);
            due = 31 * due + 7L * (parameter - 1);
            hasBeenBelow = hasBeenBelow || due < 0;
            PromiseCheck.due("checksum of " + parameter + " points", due, loom.checksum());
        }
        PromiseCheck.due("it has wrapped around", true, hasBeenBelow);
        Polyloom most = new Polyloom();
        most.statement(3);
        PromiseCheck.range(most, 0, 0, 0, 9);
        PromiseCheck.range(most, 0, 1, 0, 9);
        PromiseCheck.range(most, 0, 2, 0, 19);
        PromiseCheck.write(most, 0, 1, 1);
        long all = 17;
        for (int point = 0; point < 2000; point++) {
            all = 31 * all + 7L * (point / 200 + point / 20 % 10 + point % 20) + 3;
        }
        PromiseCheck.due("checksum of 2000 points", all, most.checksum());
    }

    private static void promise41ParallelShare() {
        TwinCheck.refused("parallelShare of nothing", TwinCheck.ARITHMETIC, TwinCheck::nothing, l -> l.parallelShare());
        TwinCheck.refused("parallelShare of no points", TwinCheck.ARITHMETIC, FiguresEdgesTest::noPoints, l -> l.parallelShare());
        TwinCheck.refused("parallelShare of too many", TwinCheck.STATE, TwinCheck::crowded, l -> l.parallelShare());
        TwinCheck.refused("parallelShare of too many numbers, but no points", TwinCheck.STATE, TwinCheck::crowdedWithoutPoints,
            l -> l.parallelShare());
        TwinCheck.asked("parallelShare of one point", 1.0f, l -> {
            TwinCheck.stencil(l);
            l.parameter(2);
        }, l -> l.parallelShare());
        TwinCheck.asked("parallelShare of the stencil", 1.0f / 3.0f, TwinCheck::stencil, l -> l.parallelShare());
        Polyloom loom = TwinCheck.told(TwinCheck::stencil);
        loom.script('d', 2, 0, 0);
        PromiseCheck.due("parallelShare of none of 2", 0.0f, loom.parallelShare());
        loom.script('d', 1, 0, 0);
        PromiseCheck.due("parallelShare of none of 1", 0.0f, loom.parallelShare());
        loom.script('n', 0, 0, 0);
        PromiseCheck.due("parallelShare of 1 of 2", 0.5f, loom.parallelShare());
        loom.script('n', 0, 0, 0);
        PromiseCheck.due("parallelShare of 2 of 3", 2.0f / 3.0f, loom.parallelShare());
        loom.script('n', 0, 0, 0);
        PromiseCheck.due("parallelShare of 3 of 4", 0.75f, loom.parallelShare());
        loom.script('d', 3, 0, 0);
        PromiseCheck.due("parallelShare of 3 of 3", 1.0f, loom.parallelShare());
    }

    private static void promise42MeanReuse() {
        TwinCheck.refused("meanReuse of nothing", TwinCheck.ARITHMETIC, TwinCheck::nothing, l -> l.meanReuse());
        TwinCheck.refused("meanReuse of no points", TwinCheck.ARITHMETIC, FiguresEdgesTest::noPoints, l -> l.meanReuse());
        TwinCheck.refused("meanReuse without accesses", TwinCheck.ARITHMETIC, l -> l.statement(2), l -> l.meanReuse());
        TwinCheck.refused("meanReuse of cells touched once", TwinCheck.ARITHMETIC, l -> {
            l.statement(1);
            PromiseCheck.write(l, 0, 0, 1);
            PromiseCheck.read(l, 0, 1, 1);
        }, l -> l.meanReuse());
        TwinCheck.refused("meanReuse of too many", TwinCheck.STATE, TwinCheck::crowded, l -> l.meanReuse());
        TwinCheck.refused("meanReuse of too many numbers, but no points", TwinCheck.STATE, TwinCheck::crowdedWithoutPoints, l -> l.meanReuse());
        for (int points = 1; points <= 4; points++) {
            int n = points;
            TwinCheck.Telling telling = l -> {
                l.statement(1);
                l.parameter(n);
                PromiseCheck.write(l, 0, 0, 0);
                PromiseCheck.read(l, 0, 1, 1);
            };
            if (points == 1) {
                TwinCheck.refused("meanReuse of one touch", TwinCheck.ARITHMETIC, telling, l -> l.meanReuse());
            } else {
                TwinCheck.asked("meanReuse of " + points + " touches", 1.0, telling, l -> l.meanReuse());
            }
        }
        // At 0 the cells (0), (0) and (1), at 1 (1), (0) and (2): distances of 0, 0 and 1.
        Polyloom loom = new Polyloom();
        loom.statement(1);
        loom.parameter(2);
        PromiseCheck.read(loom, 0, 0, 1);
        PromiseCheck.read(loom, 0, 0, 0);
        PromiseCheck.write(loom, 0, 0, 1, 0, 0, 0, 1);
        PromiseCheck.due("meanReuse of 0, 0 and 1", 1.0 / 3.0, loom.meanReuse());
    }

    private static void promise43IsConsistent() {
        TwinCheck.asked("isConsistent of nothing", true, TwinCheck::nothing, l -> l.isConsistent());
        TwinCheck.asked("isConsistent of no points", true, FiguresEdgesTest::noPoints, l -> l.isConsistent());
        TwinCheck.asked("isConsistent of the stencil", true, TwinCheck::stencil, l -> l.isConsistent());
        TwinCheck.asked("isConsistent backwards", true, TwinCheck::backwards, l -> l.isConsistent());
        TwinCheck.asked("isConsistent of something of everything", true, TwinCheck::mixed, l -> l.isConsistent());
        TwinCheck.asked("isConsistent of five statements", true, TwinCheck::full, l -> l.isConsistent());
        TwinCheck.refused("isConsistent of too many", TwinCheck.STATE, TwinCheck::crowded, l -> l.isConsistent());
        TwinCheck.refused("isConsistent of too many numbers, but no points", TwinCheck.STATE, TwinCheck::crowdedWithoutPoints,
            l -> l.isConsistent());
    }

    /** Backwards a sum is legal if it is told to be a reduction, and then no reader in between may keep it from being so. */
    private static void promise43Reduction() {
        Polyloom loom = new Polyloom();
        loom.statement(1);
        loom.statement(1);
        PromiseCheck.write(loom, 0, 0, 0);
        PromiseCheck.read(loom, 0, 0, 0);
        PromiseCheck.read(loom, 0, 1, 1);
        PromiseCheck.range(loom, 1, 0, 3, 3);
        PromiseCheck.read(loom, 1, 0, 0);
        PromiseCheck.write(loom, 1, 2, 0);
        loom.script('r', 0, 0, 0);
        loom.script('c', 1, 0, 1);
        PromiseCheck.due("legal as no reduction", false, loom.isLegal());
        PromiseCheck.due("isConsistent as no reduction", true, loom.isConsistent());
        loom.reduction(0, true);
        PromiseCheck.due("legal as a reduction", true, loom.isLegal());
        PromiseCheck.due("isSame as a reduction", false, loom.isSame());
        PromiseCheck.due("isConsistent as a reduction", true, loom.isConsistent());
    }

    /** The last calls of 512 answer as the first ones do. */
    private static void lastCalls() {
        Polyloom loom = new Polyloom();
        loom.statement(2);
        PromiseCheck.write(loom, 0, 0, 1);
        PromiseCheck.read(loom, 0, 0, 1, 0, 0, 0, -1);
        // The statement, and the write and the read by what was typed for them; then two calls a round.
        int calls = 1 + 2 + 6;
        for (int round = 0; calls + 2 <= 510; round++) {
            loom.parameter(1 + round % 9);
            PromiseCheck.due("count in the round " + round, (1 + round % 9) * (1 + round % 9), loom.count(0));
            calls += 2;
        }
        PromiseCheck.due("calls", 509, calls);
        loom.parameter(6);
        PromiseCheck.due("the last call but one", 36, loom.count(0));
        PromiseCheck.due("the last call", true, loom.isConsistent());
    }
}
