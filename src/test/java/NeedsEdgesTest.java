/** Promises 16, 17 and 22 to 27 at their limits, from both sides; and what a refused call leaves behind: nothing. */
public final class NeedsEdgesTest {
    public static void main(String[] args) {
        promise16Kind();
        promise16Between();
        promise16Unknown();
        promise16Reduction();
        promise17What();
        promise17Index();
        promise17Order();
        promise17NotThere();
        promise22IsLegal();
        promise23Broken();
        promise24To26Rows();
        promise24Carried();
        promise25IsParallel();
        promise26Band();
        promise27Refused();
        promise27Numbers();
        promise27OneIterator();
        promise27OneNeed();
        promise27ThreeIterators();
        promise27Rows();
        PromiseCheck.end("NeedsEdgesTest");
    }

    private static void promise16Kind() {
        TwinCheck.asked("needs of f", 12, TwinCheck::stencil, l -> l.needs('f'));
        TwinCheck.asked("needs of a", 0, TwinCheck::stencil, l -> l.needs('a'));
        TwinCheck.asked("needs of o", 0, TwinCheck::stencil, l -> l.needs('o'));
        Polyloom loom = TwinCheck.told(TwinCheck::stencil);
        for (char kind = 0; kind < 300; kind++) {
            char k = kind;
            if ("fao".indexOf(kind) < 0) {
                PromiseCheck.refused("needs of the kind " + (int) kind, TwinCheck.ARGUMENT, () -> loom.needs(k));
            }
        }
        for (char kind : "\0egbnpFAO\uffff".toCharArray()) {
            TwinCheck.refused("needs of " + (int) kind, TwinCheck.ARGUMENT, TwinCheck::mixed, l -> l.needs(kind));
            TwinCheck.refused("needs of " + (int) kind + " of too many", TwinCheck.ARGUMENT, TwinCheck::crowded, l -> l.needs(kind));
            TwinCheck.refused("needs of " + (int) kind + " of nothing", TwinCheck.ARGUMENT, TwinCheck::nothing, l -> l.needs(kind));
        }
        for (char kind : "fao".toCharArray()) {
            TwinCheck.asked("needs of nothing", 0, TwinCheck::nothing, l -> l.needs(kind));
            TwinCheck.refused("needs of too many", TwinCheck.STATE, TwinCheck::crowded, l -> l.needs(kind));
        }
    }

    /** Statements of one point each, one behind the other, that read ('r'), write ('w') or do both ('b') with the cell (0). */
    private static String needsOf(String what) {
        Polyloom loom = new Polyloom();
        loom.parameter(1);
        for (int s = 0; s < what.length(); s++) {
            loom.statement(1);
            if (what.charAt(s) != 'w') {
                PromiseCheck.read(loom, s, 0, 0);
            }
            if (what.charAt(s) != 'r') {
                PromiseCheck.write(loom, s, 0, 0);
            }
        }
        StringBuilder all = new StringBuilder();
        int size = loom.needs('f') + loom.needs('a') + loom.needs('o');
        for (int index = 0; index < size; index++) {
            all.append((char) loom.need(index, 'k')).append(loom.need(index, 's')).append(loom.need(index, 't'));
        }
        return all.toString();
    }

    private static void promise16Between() {
        String[][] due = {{"", ""}, {"r", ""}, {"w", ""}, {"b", ""}, {"rr", ""}, {"wr", "f01"}, {"rw", "a01"}, {"ww", "o01"},
            {"bb", "f01a01o01"}, {"wrr", "f01f02"}, {"wwr", "o01f12"}, {"rrw", "a02a12"}, {"rww", "a01o12"}, {"rbw", "a01a12o12"},
            {"wbr", "f01o01f12"}, {"bw", "a01o01"}, {"wb", "f01o01"}, {"rwr", "a01f12"}, {"wrw", "f01o02a12"}, {"rwrw", "a01f12o13a23"},
            {"brw", "f01a02o02a12"}};
        for (String[] x : due) {
            PromiseCheck.due("needs of " + x[0], x[1], needsOf(x[0]));
        }
    }

    /** Two points that know nothing of an access need each other by each other access to its array, and by none else. */
    private static void promise16Unknown() {
        for (int other = 0; other < 4; other++) {
            Polyloom loom = new Polyloom();
            loom.parameter(1);
            loom.statement(1);
            loom.statement(1);
            PromiseCheck.read(loom, 0, 2, 0);
            PromiseCheck.write(loom, 1, other, 0, 0, 0, 0, 5);
            loom.unknown(0, 0, true);
            int due = other == 2 ? 1 : 0;
            PromiseCheck.due("a of an unknown read of 2 and a write of " + other, due, loom.needs('a'));
            loom.unknown(0, 0, false);
            loom.unknown(1, 3, true);
            PromiseCheck.due("a of a read of 2 and an unknown write of " + other, due, loom.needs('a'));
            PromiseCheck.due("no other needs", 0, loom.needs('f') + loom.needs('o'));
        }
        // Of one statement alone, an unknown read and its own write make no need of one point.
        Polyloom one = new Polyloom();
        one.parameter(1);
        one.statement(1);
        PromiseCheck.read(one, 0, 0, 0);
        PromiseCheck.write(one, 0, 0, 0);
        one.unknown(0, 0, true);
        one.unknown(0, 3, true);
        PromiseCheck.due("needs of one point", 0, one.needs('f') + one.needs('a') + one.needs('o'));
        one.parameter(2);
        PromiseCheck.due("needs of two points", 3, one.needs('f') + one.needs('a') + one.needs('o'));
        // Unknown writes do not stand in between of known ones, and known ones not in between of unknown ones.
        Polyloom three = new Polyloom();
        three.parameter(1);
        for (int s = 0; s < 3; s++) {
            three.statement(1);
            PromiseCheck.write(three, s, 0, 0);
        }
        PromiseCheck.due("o one behind the other", 2, three.needs('o'));
        three.unknown(1, 3, true);
        PromiseCheck.due("o over an unknown one", 3, three.needs('o'));
        three.unknown(1, 3, false);
        three.unknown(0, 3, true);
        PromiseCheck.due("o from an unknown one over a known one", 3, three.needs('o'));
    }

    private static Polyloom reduction(int readFirst, int writeFirst, int readSecond, int writeSecond, int readArray) {
        Polyloom loom = new Polyloom();
        loom.statement(1);
        loom.parameter(2);
        PromiseCheck.read(loom, 0, readArray, 0, 0, 0, 0, readFirst);
        PromiseCheck.second(loom, 0, 0, 0, 0, 0, readSecond);
        PromiseCheck.write(loom, 0, 1, 0, 0, 0, 0, writeFirst);
        PromiseCheck.second(loom, 0, 0, 0, 0, 0, writeSecond);
        loom.reduction(0, true);
        return loom;
    }

    private static void promise16Reduction() {
        PromiseCheck.due("o of a reduction", 0, reduction(3, 3, -2, -2, 1).needs('o'));
        PromiseCheck.due("o with another first number", 1, reduction(3, 4, -2, -2, 1).needs('o'));
        PromiseCheck.due("o with another second number", 1, reduction(3, 3, -2, 2, 1).needs('o'));
        PromiseCheck.due("o with another array", 1, reduction(3, 3, -2, -2, 0).needs('o'));
        // The same cell by expressions that are not the same is no reduction: i modulo nothing, at the point 0 alone.
        Polyloom same = new Polyloom();
        same.statement(2);
        PromiseCheck.range(same, 0, 0, 0, 0);
        same.parameter(2);
        PromiseCheck.read(same, 0, 0, 1);
        PromiseCheck.write(same, 0, 0, 0);
        same.reduction(0, true);
        PromiseCheck.due("o of one cell by other expressions", 1, same.needs('o'));
        PromiseCheck.due("what is there, as by no reduction", 31 * 1 + 1, same.cell(0, 0, 0, true));
        PromiseCheck.write(same, 0, 0, 1);
        PromiseCheck.due("o by the same expressions", 0, same.needs('o'));
    }

    private static void promise17What() {
        Polyloom loom = TwinCheck.told(TwinCheck::stencil);
        for (char what = 0; what < 300; what++) {
            char w = what;
            if ("stkijl".indexOf(what) < 0) {
                PromiseCheck.refused("need 0 " + (int) what, TwinCheck.ARGUMENT, () -> loom.need(0, w));
            }
        }
        for (char what : "\0rhmuSTKIJL\uffff".toCharArray()) {
            TwinCheck.refused("need 0 " + (int) what, TwinCheck.ARGUMENT, TwinCheck::mixed, l -> l.need(0, what));
        }
        int[] due = {0, 0, 'f', 0, 1, 0};
        for (int x = 0; x < 6; x++) {
            char what = "stkijl".charAt(x);
            TwinCheck.asked("need 0 " + what, due[x], TwinCheck::stencil, l -> l.need(0, what));
        }
    }

    private static void promise17Index() {
        TwinCheck.asked("the last need", 1, TwinCheck::stencil, l -> l.need(11, 'j'));
        for (int index : new int[] {-1, 12, Integer.MIN_VALUE, Integer.MAX_VALUE}) {
            TwinCheck.refused("need " + index + " of 12", TwinCheck.ELEMENT, TwinCheck::stencil, l -> l.need(index, 'i'));
        }
        TwinCheck.refused("need of nothing", TwinCheck.ELEMENT, TwinCheck::nothing, l -> l.need(0, 's'));
        Polyloom loom = TwinCheck.told(TwinCheck::stencil);
        loom.parameter(2);
        PromiseCheck.refused("need of one point", TwinCheck.ELEMENT, () -> loom.need(0, 's'));
        PromiseCheck.range(loom, 0, 0, 1, 2);
        PromiseCheck.due("the only need", 1, loom.need(0, 'i'));
        PromiseCheck.refused("one more", TwinCheck.ELEMENT, () -> loom.need(1, 'i'));
    }

    private static void promise17Order() {
        TwinCheck.refused("z of a need that is not there", TwinCheck.ARGUMENT, TwinCheck::stencil, l -> l.need(12, 'z'));
        TwinCheck.refused("z of nothing", TwinCheck.ARGUMENT, TwinCheck::nothing, l -> l.need(0, 'z'));
        TwinCheck.refused("z of too many", TwinCheck.ARGUMENT, TwinCheck::crowded, l -> l.need(0, 'z'));
        TwinCheck.refused("need -1 of too many", TwinCheck.STATE, TwinCheck::crowded, l -> l.need(-1, 's'));
        TwinCheck.refused("need 0 of too many numbers, but no points", TwinCheck.STATE, TwinCheck::crowdedWithoutPoints,
            l -> l.need(0, 's'));
    }

    /** Statements of the depths told, at 1, 2 and 3 more than 0, the later one's numbers 10 more. */
    private static Polyloom depths(int earlier, int later) {
        Polyloom loom = new Polyloom();
        for (int s = 0; s < 2; s++) {
            int depth = s == 0 ? earlier : later;
            loom.statement(depth);
            for (int iterator = 0; iterator < depth; iterator++) {
                int at = iterator + 1 + 10 * s;
                PromiseCheck.range(loom, s, iterator, at, at);
            }
        }
        PromiseCheck.write(loom, 0, 0, 0);
        PromiseCheck.read(loom, 1, 0, 0);
        return loom;
    }

    private static void promise17NotThere() {
        for (int earlier = 1; earlier <= 3; earlier++) {
            for (int later = 1; later <= 3; later++) {
                Polyloom loom = depths(earlier, later);
                int least = Math.min(earlier, later);
                String of = " of the depths " + earlier + " and " + later;
                PromiseCheck.due("i" + of, 10, loom.need(0, 'i'));
                PromiseCheck.due("j" + of, least > 1 ? 10 : 0, loom.need(0, 'j'));
                PromiseCheck.due("k" + of, least > 2 ? 10 : 0, loom.need(0, 'l'));
            }
        }
    }

    private static void promise22IsLegal() {
        TwinCheck.asked("isLegal of nothing", true, TwinCheck::nothing, l -> l.isLegal());
        TwinCheck.asked("isLegal of the stencil", true, TwinCheck::stencil, l -> l.isLegal());
        TwinCheck.asked("isLegal backwards", false, TwinCheck::backwards, l -> l.isLegal());
        TwinCheck.refused("isLegal of too many", TwinCheck.STATE, TwinCheck::crowded, l -> l.isLegal());
        // All numbers of all rows alike: the first order is what is left, which is always legal.
        Polyloom flat = TwinCheck.told(TwinCheck::stencil);
        flat.script('d', 0, 0, 0);
        flat.script('d', 0, 0, 0);
        PromiseCheck.due("isLegal by a row of 0 alone", true, flat.isLegal());
        PromiseCheck.due("carried by it", 0, flat.carried(0));
        // The writer at i, the reader at i + c: 0 and more is legal, less is not.
        for (int c = -1; c <= 1; c++) {
            Polyloom two = new Polyloom();
            two.statement(1);
            two.statement(1);
            PromiseCheck.write(two, 0, 0, 1);
            PromiseCheck.read(two, 1, 0, 1);
            two.script('c', 1, 0, c);
            PromiseCheck.due("isLegal with the reader " + c + " later", c >= 0, two.isLegal());
            PromiseCheck.due("carried with the reader " + c + " later", c == 0 ? 0 : 4, two.carried(0));
        }
    }

    private static void promise23Broken() {
        TwinCheck.refused("broken of nothing", TwinCheck.ELEMENT, TwinCheck::nothing, l -> l.broken());
        TwinCheck.refused("broken of what is legal", TwinCheck.ELEMENT, TwinCheck::stencil, l -> l.broken());
        TwinCheck.refused("broken of too many", TwinCheck.STATE, TwinCheck::crowded, l -> l.broken());
        TwinCheck.refused("broken of too many numbers, but no points", TwinCheck.STATE, TwinCheck::crowdedWithoutPoints, l -> l.broken());
        TwinCheck.asked("broken backwards", 1, TwinCheck::backwards, l -> l.broken());
        // Three needs, of which the last one alone goes from 0 to 1 by the row that is made so.
        Polyloom last = new Polyloom();
        for (int s = 0; s < 4; s++) {
            last.statement(1);
        }
        last.parameter(1);
        PromiseCheck.write(last, 0, 0, 0);
        PromiseCheck.read(last, 1, 0, 0);
        PromiseCheck.read(last, 2, 0, 0);
        PromiseCheck.read(last, 3, 0, 0);
        PromiseCheck.refused("broken of three needs that hold", TwinCheck.ELEMENT, () -> last.broken());
        last.script('c', 3, 2, -1);
        PromiseCheck.due("the last one broken", 2, last.broken());
        last.script('c', 1, 0, -1);
        PromiseCheck.due("the first one broken, too", 0, last.broken());
        last.script('c', 1, 0, 2);
        PromiseCheck.due("the last one broken again", 2, last.broken());
        last.script('c', 0, 2, -1);
        PromiseCheck.refused("none broken", TwinCheck.ELEMENT, () -> last.broken());
    }

    private static void rowsRefused(String what, TwinCheck.Telling telling, int... rows) {
        for (int row : rows) {
            String of = " of the row " + row + what;
            TwinCheck.refused("carried" + of, TwinCheck.ARGUMENT, telling, l -> l.carried(row));
            TwinCheck.refused("isParallel" + of, TwinCheck.ARGUMENT, telling, l -> l.isParallel(row));
            TwinCheck.refused("band" + of, TwinCheck.ARGUMENT, telling, l -> l.band(row));
        }
    }

    private static void promise24To26Rows() {
        TwinCheck.Telling one = l -> {
            TwinCheck.stencil(l);
            l.script('d', 2, 0, 0);
            l.script('d', 1, 0, 0);
        };
        rowsRefused(" of 3", TwinCheck::stencil, -1, 3, Integer.MIN_VALUE, Integer.MAX_VALUE);
        rowsRefused(" of 4", TwinCheck::mixed, -1, 4);
        rowsRefused(" of 1", one, -1, 1);
        rowsRefused(" of nothing", TwinCheck::nothing, -1, 3);
        rowsRefused(" of too many", TwinCheck::crowded, -1, 3);
        TwinCheck.asked("carried by the only row", 6, one, l -> l.carried(0));
        TwinCheck.asked("isParallel of the only row", false, one, l -> l.isParallel(0));
        TwinCheck.asked("band of the only row", 1, one, l -> l.band(0));
        TwinCheck.asked("carried by the last of 4", 3, TwinCheck::mixed, l -> l.carried(3));
        TwinCheck.asked("isParallel of the last of nothing", true, TwinCheck::nothing, l -> l.isParallel(2));
        TwinCheck.asked("band of the last of nothing", 1, TwinCheck::nothing, l -> l.band(2));
        TwinCheck.refused("carried of too many", TwinCheck.STATE, TwinCheck::crowded, l -> l.carried(2));
        TwinCheck.refused("isParallel of too many", TwinCheck.STATE, TwinCheck::crowded, l -> l.isParallel(2));
        TwinCheck.refused("band of too many", TwinCheck.STATE, TwinCheck::crowded, l -> l.band(2));
    }

    private static void promise24Carried() {
        Polyloom loom = TwinCheck.told(TwinCheck::stencil);
        loom.parameter(3);
        int[] due = {2, 2, 0};
        for (int row = 0; row < 3; row++) {
            PromiseCheck.due("carried(" + row + ") of 4 needs", due[row], loom.carried(row));
        }
        loom.script('t', 0, 20, 0);
        PromiseCheck.due("carried by a tile of all", 0, loom.carried(0));
        PromiseCheck.due("carried by the row behind it", 2, loom.carried(1));
        loom.script('c', 0, 0, 18);
        // (1 + 18) / 20 and (2 + 18) / 20 are 0 and 1.
        PromiseCheck.due("carried by the tile's border", 2, loom.carried(0));
        PromiseCheck.due("carried by the row behind the border", 0, loom.carried(1));
    }

    private static void promise25IsParallel() {
        Polyloom loom = TwinCheck.told(TwinCheck::stencil);
        PromiseCheck.type(loom, 0, 0, 0, 0, 2);
        loom.bound(0, 0, false);
        PromiseCheck.type(loom, 0, 0, 0, 0, 1);
        loom.bound(0, 1, false);
        PromiseCheck.due("one need carried", 1, loom.carried(0));
        PromiseCheck.due("isParallel with one need", false, loom.isParallel(0));
        PromiseCheck.type(loom, 0, 0, 0, 0, 1);
        loom.bound(0, 0, false);
        PromiseCheck.due("no need carried", 0, loom.carried(0));
        PromiseCheck.due("isParallel without needs", true, loom.isParallel(0));
    }

    private static void promise26Band() {
        TwinCheck.asked("band of nothing", 3, TwinCheck::nothing, l -> l.band(0));
        TwinCheck.asked("band of none", 0, TwinCheck::backwards, l -> l.band(0));
        TwinCheck.asked("band behind it", 2, TwinCheck::backwards, l -> l.band(1));
        TwinCheck.Telling four = l -> {
            TwinCheck.stencil(l);
            l.script('n', 0, 0, 0);
        };
        for (int row = 0; row < 4; row++) {
            int r = row;
            TwinCheck.asked("band(" + row + ") of 4", 4 - row, four, l -> l.band(r));
        }
        // A number of the later point that is just as great is enough; one less ends the band.
        Polyloom loom = TwinCheck.told(TwinCheck::stencil);
        loom.script('s', 2, 0, 1);
        loom.script('s', 2, 1, -1);
        PromiseCheck.due("band of i, j, i - j", 2, loom.band(0));
        PromiseCheck.due("band of j, i - j: i carried the rest", 1, loom.band(1));
        loom.script('s', 2, 1, 1);
        PromiseCheck.due("band of i, j, i", 3, loom.band(0));
        // The first need alone, from (1, 1) to (1, 2), goes back by -j.
        Polyloom first = TwinCheck.told(TwinCheck::stencil);
        PromiseCheck.type(first, 0, 0, 0, 0, 1);
        first.bound(0, 0, false);
        PromiseCheck.type(first, 0, 0, 0, 0, 2);
        first.bound(0, 1, false);
        first.script('r', 1, 0, 0);
        PromiseCheck.due("one need", 1, first.needs('f'));
        PromiseCheck.due("band of i, -j with one need", 1, first.band(0));
        PromiseCheck.due("band of -j with one need", 0, first.band(1));
        PromiseCheck.due("the need that is broken", 0, first.broken());
    }

    /** What is written at (i, j) is read at (i + a, j + b) and at (i - a, j - b), behind all writes. */
    private static Polyloom bothWays(int a, int b) {
        Polyloom loom = new Polyloom();
        loom.statement(2);
        loom.statement(2);
        loom.parameter(7);
        PromiseCheck.write(loom, 0, 0, 1);
        PromiseCheck.second(loom, 0, 0, 1);
        for (int way = -1; way <= 1; way += 2) {
            PromiseCheck.read(loom, 1, 0, 1, 0, 0, 0, way * a);
            PromiseCheck.second(loom, 1, 0, 1, 0, 0, way * b);
        }
        return loom;
    }

    private static void promise27Refused() {
        TwinCheck.refused("find of nothing", TwinCheck.ELEMENT, TwinCheck::nothing, l -> l.find());
        TwinCheck.refused("find of too many", TwinCheck.STATE, TwinCheck::crowded, l -> l.find());
        TwinCheck.refused("find of too many numbers, but no points", TwinCheck.STATE, TwinCheck::crowdedWithoutPoints, l -> l.find());
        TwinCheck.Telling none = l -> {
            l.statement(1);
            l.statement(1);
            PromiseCheck.write(l, 0, 0, 1);
            PromiseCheck.read(l, 1, 0, -1, 0, 0, 1, -1);
            l.script('t', 0, 3, 0);
            l.script('c', 0, 0, 5);
            PromiseCheck.type(l, 1, 2);
        };
        TwinCheck.refused("find of what goes both ways", TwinCheck.ELEMENT, none, l -> l.find());
        Polyloom empty = new Polyloom();
        empty.statement(2);
        empty.parameter(0);
        PromiseCheck.due("find of a statement without points", 2, empty.find());
    }

    /** The numbers of a found row go from -1 to 2. */
    private static void promise27Numbers() {
        int[][] due = {{1, 1, -1, 1}, {1, -1, -1, -1}, {1, 2, 2, -1}, {2, 1, -1, 2}, {1, -2, 2, 1}, {-2, 1, 1, 2}, {1, 0, 0, -1}, {0, 1, -1, 0},
            {2, -2, -1, -1}, {2, 2, -1, 1}};
        for (int[] x : due) {
            Polyloom loom = bothWays(x[0], x[1]);
            String of = " of the needs (" + x[0] + ", " + x[1] + ") both ways";
            PromiseCheck.due("find()" + of, 1, loom.find());
            PromiseCheck.due("the first number" + of, x[2], loom.row(1, 0, 0));
            PromiseCheck.due("the second number" + of, x[3], loom.row(1, 0, 1));
            PromiseCheck.due("carried" + of, 0, loom.carried(0));
        }
        for (int[] x : new int[][] {{1, 3}, {3, 1}, {1, -3}, {3, -1}, {2, 3}, {3, -2}}) {
            Polyloom loom = bothWays(x[0], x[1]);
            PromiseCheck.refused("find() of the needs (" + x[0] + ", " + x[1] + ") both ways", TwinCheck.ELEMENT, () -> loom.find());
            PromiseCheck.due("the rows still", 3, loom.rows());
        }
    }

    private static void promise27OneIterator() {
        // What is written at i is read at i + c: the row goes up, down, or, without needs, down as the first by its numbers.
        int[][] due = {{-1, 1}, {1, -1}, {20, -1}, {0, -1}};
        for (int[] x : due) {
            Polyloom loom = new Polyloom();
            loom.statement(1);
            loom.statement(1);
            PromiseCheck.write(loom, 0, 0, 1);
            PromiseCheck.read(loom, 1, 0, 1, 0, 0, 0, x[0]);
            PromiseCheck.due("find() with reads of i + " + x[0], 1, loom.find());
            PromiseCheck.due("its number with reads of i + " + x[0], x[1], loom.row(0, 0, 0));
            PromiseCheck.due("its size", 1, loom.row(0, 0, 5));
        }
    }

    private static void dueRows(Polyloom loom, String of, int[][] due) {
        PromiseCheck.due("find()" + of, due.length, loom.find());
        for (int row = 0; row < due.length; row++) {
            for (int number = 0; number < due[row].length; number++) {
                PromiseCheck.due("found row " + row + ", number " + number + of, due[row][number], loom.row(0, row, number));
            }
        }
    }

    /** One need that keeps a row from going back: at once, or once another one is carried. */
    private static void promise27OneNeed() {
        Polyloom one = new Polyloom();
        one.statement(1);
        one.parameter(2);
        PromiseCheck.write(one, 0, 0, 1);
        PromiseCheck.read(one, 0, 0, 1, 0, 0, 0, -1);
        dueRows(one, " of one need", new int[][] {{1}});
        one.parameter(1);
        dueRows(one, " of none", new int[][] {{-1}});
        // (0, 0), (1, 0) and (1, 1) need each other in turn: (1, 0), then (0, 1), which is carried first.
        Polyloom two = new Polyloom();
        two.statement(2);
        two.parameter(2);
        PromiseCheck.type(two, 1, -1);
        two.guard(0, 0);
        PromiseCheck.write(two, 0, 0, 1, 1);
        PromiseCheck.read(two, 0, 0, 1, 1, 0, 0, -1);
        PromiseCheck.due("i of need 0", 1, two.need(0, 'i'));
        PromiseCheck.due("j of need 1", 1, two.need(1, 'j'));
        dueRows(two, " of two needs", new int[][] {{0, 1}, {1, 0}});
        // The other way round, (0, 0), (0, 1) and (1, 1): what was found once is found again.
        Polyloom again = new Polyloom();
        again.statement(2);
        again.parameter(2);
        PromiseCheck.type(again, -1, 1);
        again.guard(0, 0);
        PromiseCheck.write(again, 0, 0, 1, 1);
        PromiseCheck.read(again, 0, 0, 1, 1, 0, 0, -1);
        for (int times = 0; times < 3; times++) {
            dueRows(again, " of two other needs, " + times, new int[][] {{0, 1}, {1, 0}});
        }
    }

    /** What is written at (i, j, k) is read, behind all writes, at the points that are so much further. */
    private static Polyloom further(int[][] differences) {
        Polyloom loom = new Polyloom();
        loom.statement(3);
        loom.statement(3);
        PromiseCheck.write(loom, 0, 0, 1);
        PromiseCheck.second(loom, 0, 0, 10, 1);
        for (int[] d : differences) {
            PromiseCheck.read(loom, 1, 0, 1, 0, 0, 0, -d[0]);
            PromiseCheck.second(loom, 1, 0, 10, 1, 0, -10 * d[1] - d[2]);
        }
        return loom;
    }

    private static void promise27ThreeIterators() {
        // The differences of all needs, and the rows that are due for them.
        int[][][][] due = {
            {{{0, 0, 2}, {-1, -1, 1}, {1, 1, -2}}, {{-1, 1, 0}}},
            {{{-2, -1, -2}, {0, 1, 2}, {1, 0, 0}}, {{0, 2, -1}}},
            {{{-2, 0, 2}, {0, 1, -1}, {1, -1, 0}}, {{-1, -1, -1}}},
            {{{-1, 0, 2}, {1, 0, -2}}, {{0, -1, 0}, {2, 0, 1}}},
            {{{1, 0, 0}, {-1, 0, 0}, {2, 1, -2}}, {{0, 2, 1}, {0, 1, 0}}},
            {{{-1, 0, 1}, {-2, -1, 1}, {2, 0, -2}}, {{-1, 1, -1}, {0, -1, 0}}},
            {{{0, 0, 1}, {2, 0, -2}, {0, 0, -1}}, {{0, -1, 0}, {1, 0, 0}}},
            {{{2, 0, 1}, {0, -1, -1}, {-2, 0, -1}}, {{0, -1, 0}, {-1, 0, 2}}},
            {{{2, 1, 0}, {0, -1, 1}}, {{-1, 2, 2}, {0, 1, 1}, {0, -1, 0}}},
            {{{1, -1, 0}, {-1, 0, -2}}, {{2, 2, -1}, {-1, -1, 0}, {0, -1, 0}}},
            {{{-2, 1, 0}, {0, 1, -1}}, {{1, 2, 2}, {0, 1, 1}, {0, 0, -1}}},
            {{{-2, 1, -2}, {0, 1, -1}}, {{-1, 2, 2}, {0, -1, -1}, {0, 0, -1}}},
            {{{-1, 1, 0}, {1, 0, -2}}, {{2, 2, 1}, {1, 1, 0}, {-1, 0, 0}}},
            {{{0, -1, 1}, {-2, 0, 1}}, {{1, 2, 2}, {0, 1, 1}, {0, -1, 0}}},
            {{{1, -1, 0}, {0, 1, 2}}, {{2, 2, -1}, {1, 1, 0}, {0, -1, 0}}},
            {{{-2, -1, 0}, {1, -1, 2}, {0, -1, 1}}, {{-1, 2, 2}, {0, -1, -1}, {0, -1, 0}}},
            {{{1, 1, 2}, {0, -1, 2}, {0, -1, -2}}, {{1, 0, 0}, {0, -1, 0}, {0, 0, -1}}},
            {{{0, -1, 1}, {-1, -1, -2}, {-1, -1, -1}}, {{2, -1, -1}, {-1, 0, 0}, {0, -1, 0}}},
            {{{0, 0, 0}}, {{-1, 0, 0}, {0, -1, 0}, {0, 0, -1}}},
            {{{1, 1, 2}, {2, -1, 2}, {1, 0, 2}}, {{2, 0, -1}, {0, 1, 0}, {1, 0, 0}}},
            {{{-2, 0, 2}, {1, 1, -2}}, {{-1, -1, -1}, {0, 1, 0}, {-1, 0, 0}}},
            {{{2, 0, -2}, {-1, -1, 2}, {1, 1, 0}}, {{1, -1, 0}, {0, 0, 1}, {0, 1, 0}}},
            {{{-2, 1, 0}, {-1, 1, -2}}, {{1, 2, 0}, {0, 0, -1}, {0, 1, 0}}},
            {{{0, 1, 2}, {-2, 0, 1}}, {{0, 1, 0}, {1, 0, 2}, {0, 0, 1}}},
        };
        for (int[][][] x : due) {
            dueRows(further(x[0]), " of the needs " + java.util.Arrays.deepToString(x[0]), x[1]);
        }
        int[][] none = {{1, 0, 0}, {-2, 0, 1}, {0, 0, -1}};
        dueRows(further(none), " of what goes all ways but by j", new int[][] {{0, -1, 0}});
    }

    /** As many rows as the greatest depth; a number is 0 for what a statement has not; what was changed is gone. */
    private static void promise27Rows() {
        for (int depth = 1; depth <= 3; depth++) {
            Polyloom loom = new Polyloom();
            loom.statement(1);
            loom.statement(depth);
            loom.script('t', 0, 5, 0);
            loom.script('c', 0, 0, 7);
            PromiseCheck.due("find() of the depth " + depth, depth, loom.find());
            PromiseCheck.due("rows of the depth " + depth, depth, loom.rows());
            for (int row = 0; row < depth; row++) {
                for (int number = 0; number < 6; number++) {
                    int own = number == row ? -1 : number == 5 ? 1 : 0;
                    int first = row == 0 || number == 5 ? own : 0;
                    PromiseCheck.due("found row " + row + ", number " + number, own, loom.row(1, row, number));
                    PromiseCheck.due("found row " + row + " of the depth 1, number " + number, first, loom.row(0, row, number));
                }
            }
            int beyond = depth;
            PromiseCheck.refused("a row more", TwinCheck.ARGUMENT, () -> loom.row(0, beyond, 0));
        }
    }
}
