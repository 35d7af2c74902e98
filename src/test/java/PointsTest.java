/** Promises 12 to 15: points. */
public final class PointsTest {
    public static void main(String[] args) {
        promise12Count();
        promise12MostPoints();
        promise12MostGoneThrough();
        promise12GoneThroughByDepth();
        promise12MostNeeds();
        promise13Point();
        promise14Period();
        promise14PeriodRefused();
        promise15First();
        promise15FirstByPlaces();
        PromiseCheck.end("PointsTest");
    }

    private static void promise12Count() {
        Polyloom loom = new Polyloom();
        loom.statement(2);
        loom.statement(3);
        PromiseCheck.due("count of a square", 16, loom.count(0));
        PromiseCheck.due("count of a cube", 64, loom.count(1));
        PromiseCheck.range(loom, 0, 1, 3, 2);
        PromiseCheck.due("count of nothing", 0, loom.count(0));
        PromiseCheck.refused("count of no statement", IndexOutOfBoundsException.class, () -> loom.count(2));
        PromiseCheck.refused("count of statement -1", IndexOutOfBoundsException.class, () -> loom.count(-1));
        Polyloom crowded = PromiseCheck.crowded();
        PromiseCheck.refused("count of too many", IllegalStateException.class, () -> crowded.count(0));
        PromiseCheck.refused("count of no statement, of too many", IndexOutOfBoundsException.class, () -> crowded.count(1));
    }

    private static Polyloom line(int size) {
        Polyloom loom = new Polyloom();
        loom.statement(3);
        PromiseCheck.range(loom, 0, 0, 0, 9);
        PromiseCheck.range(loom, 0, 1, 0, 9);
        PromiseCheck.range(loom, 0, 2, 1, size);
        return loom;
    }

    private static void promise12MostPoints() {
        Polyloom loom = line(20);
        PromiseCheck.due("count of 2000", 2000, loom.count(0));
        loom.statement(1);
        PromiseCheck.refused("2000 and 4 more", IllegalStateException.class, () -> loom.count(0));
        loom.parameter(0);
        PromiseCheck.due("2000 and none more", 2000, loom.count(0));
        loom.parameter(1);
        PromiseCheck.refused("2001 of all statements", IllegalStateException.class, () -> loom.count(1));
        PromiseCheck.refused("2001 of all, the first", IllegalStateException.class, () -> loom.first(0));
    }

    /** 20 numbers of i, for each 27 of j, for each 36 of k: what is gone through at all depths is counted. */
    private static void promise12MostGoneThrough() {
        Polyloom loom = new Polyloom();
        loom.statement(3);
        PromiseCheck.range(loom, 0, 0, 1, 20);
        PromiseCheck.range(loom, 0, 1, -6, 20);
        PromiseCheck.range(loom, 0, 2, -15, 20);
        PromiseCheck.type(loom, 0, 0, 1, 0, -20);
        loom.guard(0, 0);
        // 20 + 540 + 19440 are 20000, of which the guard leaves the k of 20.
        PromiseCheck.due("20000 gone through", 540, loom.count(0));
        loom.statement(1);
        loom.parameter(0);
        PromiseCheck.due("20000 gone through, and none", 540, loom.count(0));
        loom.parameter(1);
        PromiseCheck.refused("20001 gone through", IllegalStateException.class, () -> loom.count(1));
    }

    /** One number of each iterator but the last, which goes from -6980 or so to 13018 or so. */
    private static Polyloom lastLong(int depth, int last) {
        Polyloom loom = new Polyloom();
        loom.statement(depth);
        loom.parameter(30);
        PromiseCheck.type(loom, 0, 0, 0, 20, 20);
        loom.bound(0, 0, true);
        PromiseCheck.type(loom, 0, 0, 0, 20, 20);
        loom.bound(0, 0, false);
        if (depth == 3) {
            PromiseCheck.range(loom, 0, 1, 0, 0);
        }
        PromiseCheck.type(loom, -11, 0, 0, -5, -10);
        loom.bound(0, depth - 1, true);
        PromiseCheck.type(loom, 20, 0, 0, 20, last);
        loom.bound(0, depth - 1, false);
        PromiseCheck.type(loom, -20, depth == 2 ? 1 : 0, depth == 3 ? 1 : 0, -20, 0);
        loom.guard(0, 0);
        return loom;
    }

    private static void promise12GoneThroughByDepth() {
        PromiseCheck.due("1 and 19999 gone through", 19, lastLong(2, 18).count(0));
        PromiseCheck.refused("1 and 20000 gone through", IllegalStateException.class, () -> lastLong(2, 19).count(0));
        PromiseCheck.due("1, 1 and 19998 gone through", 18, lastLong(3, 17).count(0));
        PromiseCheck.refused("1, 1 and 19999 gone through", IllegalStateException.class, () -> lastLong(3, 18).count(0));
    }

    /** Unknown writes: of n points each needs each one ahead, by o; of writers of one cell each the one ahead. */
    private static void promise12MostNeeds() {
        Polyloom loom = new Polyloom();
        loom.statement(2);
        PromiseCheck.range(loom, 0, 0, 1, 10);
        PromiseCheck.range(loom, 0, 1, 1, 20);
        PromiseCheck.write(loom, 0, 0, 1);
        loom.unknown(0, 3, true);
        PromiseCheck.due("needs of 200 points", 19900, loom.needs('o'));
        for (int s = 1; s < 5; s++) {
            loom.statement(1);
            PromiseCheck.write(loom, s, 1, 0);
        }
        PromiseCheck.type(loom, 0, 0, 0, 1, -20);
        loom.bound(4, 0, false);
        loom.parameter(30);
        PromiseCheck.due("needs of 200 points, and of 101 writers of a cell", 20000, loom.needs('o'));
        PromiseCheck.due("points of the last statement", 11, loom.count(4));
        // Its last point alone reads the cell, which makes one need more.
        PromiseCheck.read(loom, 4, 1, 1, 0, 0, 0, -10);
        PromiseCheck.refused("20001 needs", IllegalStateException.class, () -> loom.count(4));
        PromiseCheck.refused("20001 needs, by needs", IllegalStateException.class, () -> loom.needs('f'));
        loom.unknown(0, 3, false);
        PromiseCheck.due("known ones by o", 10 * 19 + 100, loom.needs('o'));
        PromiseCheck.due("known ones by f", 1, loom.needs('f'));
    }

    private static void promise13Point() {
        Polyloom loom = new Polyloom();
        loom.statement(2);
        PromiseCheck.type(loom, 1);
        loom.bound(0, 1, true);
        PromiseCheck.type(loom, 0, 0, 0, 0, -1);
        loom.bound(0, 0, true);
        PromiseCheck.due("i of the first", -1, loom.point(0, 0, 0));
        PromiseCheck.due("j of the first", -1, loom.point(0, 0, 1));
        PromiseCheck.due("i of the sixth", 0, loom.point(0, 5, 0));
        PromiseCheck.due("j of the sixth", 0, loom.point(0, 5, 1));
        PromiseCheck.due("j of the last", 3, loom.point(0, 14, 1));
        PromiseCheck.refused("point 15", java.util.NoSuchElementException.class, () -> loom.point(0, 15, 0));
        PromiseCheck.refused("point -1", java.util.NoSuchElementException.class, () -> loom.point(0, -1, 0));
        PromiseCheck.refused("iterator 2", IndexOutOfBoundsException.class, () -> loom.point(0, 0, 2));
        PromiseCheck.refused("iterator -1", IndexOutOfBoundsException.class, () -> loom.point(0, 99, -1));
        PromiseCheck.refused("statement 1", IndexOutOfBoundsException.class, () -> loom.point(1, 0, 0));
        loom.statement(3);
        loom.place(1, 0, 0);
        PromiseCheck.due("k, the places being mixed", 3, loom.point(1, 63, 2));
        PromiseCheck.due("j, the places being mixed", 2, loom.point(1, 27, 1));
        PromiseCheck.due("i, the places being mixed", 1, loom.point(1, 27, 0));
        Polyloom crowded = PromiseCheck.crowded();
        PromiseCheck.refused("point of too many", IllegalStateException.class, () -> crowded.point(0, -1, 0));
        PromiseCheck.refused("iterator 3 of too many", IndexOutOfBoundsException.class, () -> crowded.point(0, 0, 3));
    }

    private static void promise14Period() {
        Polyloom loom = new Polyloom();
        for (int modulus = 2; modulus <= 5; modulus++) {
            int s = loom.statement(1);
            PromiseCheck.type(loom, 1);
            loom.guard(s, modulus);
        }
        loom.statement(3);
        PromiseCheck.due("period of each second", 2, loom.period(0));
        PromiseCheck.due("period of each third", 3, loom.period(1));
        PromiseCheck.due("period of each fourth", 4, loom.period(2));
        PromiseCheck.due("period of a cube", 1, loom.period(4));
        PromiseCheck.refused("period of each fifth", java.util.NoSuchElementException.class, () -> loom.period(3));
        PromiseCheck.refused("period of no statement", IndexOutOfBoundsException.class, () -> loom.period(5));
        PromiseCheck.refused("period of statement -1", IndexOutOfBoundsException.class, () -> loom.period(-1));
        PromiseCheck.type(loom, 1);
        loom.guard(0, 3);
        PromiseCheck.refused("period of each sixth", java.util.NoSuchElementException.class, () -> loom.period(0));
        PromiseCheck.type(loom, 0, 0, 0, 0, 5);
        loom.bound(1, 0, false);
        PromiseCheck.due("period of a number", 1, loom.period(1));
        // Up to the least of the parameter less 6 and 0: from 6 on, always 1.
        PromiseCheck.type(loom, 0, 0, 0, 1, -6);
        loom.bound(2, 0, false);
        PromiseCheck.type(loom, 0, 0, 0, 0, 0);
        loom.bound(2, 0, false);
        PromiseCheck.due("period of the parameters from 6 on", 1, loom.period(2));
        Polyloom late = new Polyloom();
        late.statement(1);
        PromiseCheck.due("period of a line", 1, late.period(0));
        // One more each time up to the parameter 24, none more at 25, which is looked at.
        PromiseCheck.type(late, 0, 0, 0, 1, -4);
        late.bound(0, 0, false);
        PromiseCheck.due("period of a line less 3", 1, late.period(0));
        PromiseCheck.type(late, 0, 0, 0, 0, 20);
        late.bound(0, 0, false);
        PromiseCheck.refused("a period that the parameter 25 breaks", java.util.NoSuchElementException.class, () -> late.period(0));
        Polyloom early = new Polyloom();
        early.statement(1);
        // None up to the parameter 6, or up to 7, then one more each time: this one is broken by the parameter 6.
        PromiseCheck.type(early, 0, 0, 0, 1, -7);
        early.bound(0, 0, false);
        early.statement(1);
        PromiseCheck.type(early, 0, 0, 0, 1, -8);
        early.bound(1, 0, false);
        PromiseCheck.due("period from the parameter 6 on", 1, early.period(0));
        PromiseCheck.refused("a period that the parameter 6 breaks", java.util.NoSuchElementException.class, () -> early.period(1));
    }

    private static void promise14PeriodRefused() {
        Polyloom loom = new Polyloom();
        loom.statement(3);
        // At the parameter 25 there are 25 numbers of i, for each 31 of j, for each 24 of k.
        PromiseCheck.range(loom, 0, 1, -10, 20);
        PromiseCheck.type(loom, 0, 0, 0, 0, 1);
        loom.bound(0, 2, true);
        PromiseCheck.due("19400 gone through at 25", 1, loom.period(0));
        PromiseCheck.refused("count of too many at 30", IllegalStateException.class, () -> {
            loom.parameter(30);
            return loom.count(0);
        });
        PromiseCheck.due("period with too many points", 1, loom.period(0));
        loom.statement(3);
        PromiseCheck.range(loom, 1, 1, -11, 20);
        PromiseCheck.type(loom, 0, 0, 0, 0, 1);
        loom.bound(1, 2, true);
        PromiseCheck.refused("20025 gone through at 25", java.util.NoSuchElementException.class, () -> loom.period(1));
        loom.statement(1);
        PromiseCheck.due("period of another one", 1, loom.period(2));
    }

    private static void promise15First() {
        Polyloom loom = new Polyloom();
        PromiseCheck.refused("first of nothing", java.util.NoSuchElementException.class, () -> loom.first(0));
        PromiseCheck.refused("first(-1)", IllegalArgumentException.class, () -> loom.first(-1));
        PromiseCheck.refused("first(4)", IllegalArgumentException.class, () -> loom.first(4));
        loom.statement(2);
        PromiseCheck.range(loom, 0, 0, -3, 2);
        PromiseCheck.range(loom, 0, 1, 5, 6);
        loom.statement(1);
        PromiseCheck.range(loom, 1, 0, -9, 2);
        PromiseCheck.due("first(3)", 0, loom.first(3));
        PromiseCheck.due("first(0)", -3, loom.first(0));
        PromiseCheck.due("first(1)", 5, loom.first(1));
        PromiseCheck.due("first(2) of depth 2", 0, loom.first(2));
        loom.place(0, 0, 1);
        PromiseCheck.due("first(3) with the same place 0", 1, loom.first(3));
        PromiseCheck.due("first(0) with the same place 0", -9, loom.first(0));
        PromiseCheck.due("first(1) of depth 1", 0, loom.first(1));
        loom.parameter(0);
        loom.statement(1);
        PromiseCheck.due("first(3) with an empty statement", 1, loom.first(3));
        Polyloom crowded = PromiseCheck.crowded();
        PromiseCheck.refused("first of too many", IllegalStateException.class, () -> crowded.first(0));
        PromiseCheck.refused("first(4) of too many", IllegalArgumentException.class, () -> crowded.first(4));
    }

    private static void promise15FirstByPlaces() {
        Polyloom loom = new Polyloom();
        loom.statement(2);
        loom.statement(1);
        loom.statement(3);
        loom.place(1, 0, 0);
        loom.place(2, 0, 0);
        PromiseCheck.due("an absent j comes first", 1, loom.first(3));
        loom.place(1, 1, 1);
        PromiseCheck.due("the place 1 is ahead of j, an absent k comes first", 0, loom.first(3));
        loom.place(0, 2, 1);
        PromiseCheck.due("the place 2 is ahead of k", 2, loom.first(3));
        loom.place(2, 1, 2);
        PromiseCheck.due("the place 1 again", 0, loom.first(3));
        PromiseCheck.range(loom, 1, 0, -1, 0);
        PromiseCheck.due("i is ahead of the place 1", 1, loom.first(3));
        loom.place(1, 0, 9);
        PromiseCheck.due("the place 0 is ahead of i", 0, loom.first(3));
        promise15FirstByAbsent();
    }

    /** An iterator that is not there counts as -1000, which others can be below. */
    private static void promise15FirstByAbsent() {
        Polyloom loom = new Polyloom();
        loom.statement(1);
        PromiseCheck.range(loom, 0, 0, -20, -20);
        loom.statement(2);
        loom.place(1, 0, 0);
        PromiseCheck.type(loom, 0, 0, 0, -15, 10);
        loom.bound(1, 0, true);
        PromiseCheck.type(loom, 0, 0, 0, 0, -20);
        loom.bound(1, 0, false);
        PromiseCheck.type(loom, 20, 0, 0, -20, -20);
        loom.bound(1, 1, true);
        PromiseCheck.type(loom, 20, 0, 0, -20, -20);
        loom.bound(1, 1, false);
        loom.parameter(2);
        PromiseCheck.due("j of -460 comes behind an absent one", 0, loom.first(3));
        loom.parameter(30);
        PromiseCheck.due("i of -440 comes first", 1, loom.first(3));
        PromiseCheck.due("its i", -440, loom.first(0));
        PromiseCheck.type(loom, 0, 0, 0, 0, -20);
        loom.bound(1, 0, true);
        PromiseCheck.due("j of -1020 comes ahead of an absent one", 1, loom.first(3));
        PromiseCheck.due("its j", -1020, loom.first(1));
        PromiseCheck.due("its i", -20, loom.first(0));
        for (int flat = 0; flat < 2; flat++) {
            Polyloom tied = new Polyloom();
            tied.statement(flat == 0 ? 1 : 2);
            tied.statement(flat == 0 ? 2 : 1);
            tied.place(1, 0, 0);
            tied.parameter(30);
            PromiseCheck.range(tied, 0, 0, 20, 20);
            PromiseCheck.range(tied, 1, 0, 20, 20);
            PromiseCheck.type(tied, -20, 0, 0, -20);
            tied.bound(1 - flat, 1, true);
            PromiseCheck.type(tied, -20, 0, 0, -20);
            tied.bound(1 - flat, 1, false);
            PromiseCheck.due("j of -1000 counts as an absent one: the statements' numbers", 0, tied.first(3));
            PromiseCheck.due("the j of the statement 0", flat == 0 ? 0 : -1000, tied.first(1));
        }
    }
}
