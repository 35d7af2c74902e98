/** As much as the document lets there be, over and over on one object: points, cells, touches, needs, lines. */
public final class LoadTest {
    public static void main(String[] args) {
        mostCells();
        scatteredCells();
        mostTouches();
        mostPairs();
        mostLines();
        manyCalls();
        PromiseCheck.end("LoadTest");
    }

    /** 2000 points: 10 numbers of i and j, 20 of k. */
    private static Polyloom cuboid() {
        Polyloom loom = new Polyloom();
        loom.statement(3);
        PromiseCheck.range(loom, 0, 0, 0, 9);
        PromiseCheck.range(loom, 0, 1, 0, 9);
        PromiseCheck.range(loom, 0, 2, 0, 19);
        return loom;
    }

    private static void mostCells() {
        Polyloom loom = cuboid();
        for (int array = 0; array < 4; array++) {
            PromiseCheck.type(loom, 1);
            loom.access(0, array, array == 3, false);
            PromiseCheck.second(loom, 0, 0, 20, 1);
        }
        for (int round = 0; round < 6; round++) {
            loom.parameter(round);
            PromiseCheck.due("points", 2000, loom.count(0));
            PromiseCheck.due("cells of a plane by k", 400, loom.footprint(2, 5));
            PromiseCheck.due("cells of a plane by i", 800, loom.footprint(0, 5));
            PromiseCheck.due("touches of cells once", 0, loom.reuse(5000));
            PromiseCheck.due("misses of cells once", 8000, loom.misses(1, 64));
            PromiseCheck.due("misses of lines of 16", 520, loom.misses(16, 4));
            PromiseCheck.due("storage of cells never read behind", 1, loom.storage(3));
            PromiseCheck.due("isConsistent", true, loom.isConsistent());
            int read = 31 * (919 + 2 * 926 + 3 * 933) + 1;
            PromiseCheck.due("a cell", read % 10007, loom.cell(3, 9, 19, true));
        }
    }

    /** 8000 cells that are far from each other: (20 i + 3 j, 17 k - 5 j) of each array, each touched once. */
    private static void scatteredCells() {
        Polyloom loom = cuboid();
        for (int array = 0; array < 4; array++) {
            PromiseCheck.type(loom, 20, 3);
            loom.access(0, array, array == 3, false);
            PromiseCheck.second(loom, 0, 0, -5, 17);
        }
        loom.script('n', 0, 0, 0);
        PromiseCheck.due("scattered cells of all", 8000, loom.footprint(0, 0));
        PromiseCheck.due("scattered cells of an i", 800, loom.footprint(1, 9));
        PromiseCheck.due("touches of scattered cells", 0, loom.reuse(5000));
        PromiseCheck.due("misses of scattered cells", 8000, loom.misses(1, 64));
        // (29, 2) is that of (1, 3, 1): 2902 modulo 1009 are 884.
        PromiseCheck.due("a scattered cell", (31 * (884 + 2 * 891 + 3 * 898) + 1) % 10007, loom.cell(3, 29, 2, true));
        PromiseCheck.due("a cell between", 2903 - 2 * 1009 + 21, loom.cell(3, 29, 3, true));
    }

    private static void mostTouches() {
        Polyloom loom = cuboid();
        for (int access = 0; access < 4; access++) {
            PromiseCheck.type(loom, 1);
            loom.access(0, 1, access == 3, false);
            PromiseCheck.second(loom, 0, 0, 1);
        }
        for (int round = 0; round < 6; round++) {
            loom.parameter(round);
            // (i, j) is touched by 20 points one behind the other, 4 times each.
            PromiseCheck.due("touches at once", 8000 - 100, loom.reuse(0));
            PromiseCheck.due("mean of none", 0.0, loom.meanReuse());
            PromiseCheck.due("f", 1900, loom.needs('f'));
            PromiseCheck.due("a", 1900, loom.needs('a'));
            PromiseCheck.due("o", 1900, loom.needs('o'));
            loom.script('x', 0, 2, 0);
            // By k, j, i: 99 others come in between, but for the touches of one point.
            PromiseCheck.due("touches of one point", 6000, loom.reuse(98));
            PromiseCheck.due("touches with 99 others in between", 7900, loom.reuse(99));
            PromiseCheck.due("mean of 99 and 0", 1900 * 99 / 7900.0, loom.meanReuse());
            PromiseCheck.due("storage of 100 cells by k, j, i", 110, loom.storage(1));
            loom.script('x', 0, 2, 0);
            PromiseCheck.due("storage of one by one", 1, loom.storage(1));
        }
    }

    /** At (i, j, k) three cells are read, which three other points wrote, and which three others write then. */
    private static void mostPairs() {
        Polyloom loom = cuboid();
        PromiseCheck.write(loom, 0, 0, 0, 1);
        PromiseCheck.second(loom, 0, 0, 0, 1);
        for (int read = 1; read <= 3; read++) {
            PromiseCheck.read(loom, 0, 0, 0, 1, 0, 0, read - 2);
            PromiseCheck.second(loom, 0, 0, 0, 1, 0, -read);
        }
        // f of the row ahead (j - 1, k - 1), of the same (j, k - 2), and of the i ahead (j + 1, k - 3).
        int f = 10 * 9 * 19 + 10 * 10 * 18 + 9 * 9 * 17;
        int o = 9 * 10 * 20;
        int a = 9 * 9 * 19 + 9 * 10 * 18 + 10 * 9 * 17;
        for (int round = 0; round < 4; round++) {
            loom.parameter(round);
            PromiseCheck.due("f of all pairs", f, loom.needs('f'));
            PromiseCheck.due("o of all pairs", o, loom.needs('o'));
            PromiseCheck.due("a of all pairs", a, loom.needs('a'));
            PromiseCheck.due("the last need", (int) 'f', loom.need(f + o + a - 1, 'k'));
            PromiseCheck.due("isSame", true, loom.isSame());
        }
    }

    private static void mostLines() {
        Polyloom loom = new Polyloom();
        loom.statement(2);
        PromiseCheck.range(loom, 0, 0, 0, 1);
        PromiseCheck.type(loom, 0, 0, 0, 2, 4);
        loom.bound(0, 1, false);
        PromiseCheck.read(loom, 0, 0, 0, 1);
        loom.parameter(30);
        PromiseCheck.due("65 lines twice, 64 kept", 130, loom.misses(1, 64));
        PromiseCheck.due("65 lines twice, 1 kept", 130, loom.misses(1, 1));
        PromiseCheck.type(loom, 0, 0, 0, 2, 3);
        loom.bound(0, 1, false);
        PromiseCheck.due("64 lines twice, 64 kept", 64, loom.misses(1, 64));
        PromiseCheck.due("64 lines twice, 63 kept", 128, loom.misses(1, 63));
    }

    private static void manyCalls() {
        Polyloom loom = PromiseCheck.stencil();
        for (int call = 0; call < 50; call++) {
            loom.parameter(2 + call % 5);
            int across = 1 + call % 5;
            PromiseCheck.due("points", across * across, loom.count(0));
            PromiseCheck.due("needs", 2 * across * (across - 1), loom.needs('f'));
            PromiseCheck.due("footprint", across * across + 2 * across, loom.footprint(2, 0));
            PromiseCheck.due("messages", across - 1, loom.messages(0, 16));
            PromiseCheck.due("isConsistent", true, loom.isConsistent());
        }
    }
}
