import java.util.NoSuchElementException;

/** Promises 28 to 39: orders, memories, machines. */
public final class OrdersTest {
    public static void main(String[] args) {
        promise28Time();
        promise29Visited();
        promise30Pieces();
        promise31Piece();
        promise32Footprint();
        promise33Reuse();
        promise34Layout();
        promise35Misses();
        promise36Storage();
        promise36StorageRefused();
        promise36StorageMost();
        promise37Messages();
        promise38Cell();
        promise39IsSame();
        tooMany();
        PromiseCheck.end("OrdersTest");
    }

    private static void promise28Time() {
        Polyloom loom = PromiseCheck.stencil();
        PromiseCheck.due("time of (1, 1)", 0, loom.time(0, 0));
        PromiseCheck.due("time of (2, 1)", 3, loom.time(0, 3));
        loom.script('x', 0, 1, 0);
        PromiseCheck.due("time of (2, 1) by j, i", 1, loom.time(0, 3));
        PromiseCheck.due("time of (3, 2) by j, i", 5, loom.time(0, 7));
        loom.script('r', 0, 0, 0);
        PromiseCheck.due("time of (2, 1) by -j, i", 7, loom.time(0, 3));
        PromiseCheck.refused("time of point 9", NoSuchElementException.class, () -> loom.time(0, 9));
        PromiseCheck.refused("time of point -1", NoSuchElementException.class, () -> loom.time(0, -1));
        PromiseCheck.refused("time of no statement", IndexOutOfBoundsException.class, () -> loom.time(1, 99));
        PromiseCheck.refused("time of statement -1", IndexOutOfBoundsException.class, () -> loom.time(-1, 0));
        loom.statement(1);
        loom.place(1, 0, 0);
        loom.place(0, 1, 1);
        // All rows are as at first; (0), then each i with the statement 1 first, for its place 1 is 0.
        PromiseCheck.due("time of (0) by the first order", 0, loom.time(1, 0));
        PromiseCheck.due("time of (1)", 1, loom.time(1, 1));
        PromiseCheck.due("time of (1, 1)", 2, loom.time(0, 0));
        PromiseCheck.due("time of (3, 3)", 12, loom.time(0, 8));
    }

    private static void promise29Visited() {
        Polyloom loom = PromiseCheck.stencil();
        PromiseCheck.due("i at 5", 2, loom.visited(5, 0));
        PromiseCheck.due("j at 5", 3, loom.visited(5, 1));
        PromiseCheck.due("k at 5", 0, loom.visited(5, 2));
        PromiseCheck.due("the statement at 5", 0, loom.visited(5, 3));
        loom.script('s', 0, 1, 1);
        PromiseCheck.due("i at 5 by i + j, j", 1, loom.visited(5, 0));
        PromiseCheck.due("i at 3 by i + j, j", 3, loom.visited(3, 0));
        loom.script('d', 1, 0, 0);
        PromiseCheck.due("i at 3 by i + j", 1, loom.visited(3, 0));
        loom.statement(1);
        loom.script('c', 1, 0, 2);
        loom.script('n', 0, 0, 0);
        PromiseCheck.due("the statement at 8", 0, loom.visited(8, 3));
        PromiseCheck.due("the statement at 9", 1, loom.visited(9, 3));
        PromiseCheck.due("i at 12", 3, loom.visited(12, 0));
        PromiseCheck.due("j at 12", 0, loom.visited(12, 1));
        PromiseCheck.refused("visited at 13", NoSuchElementException.class, () -> loom.visited(13, 0));
        PromiseCheck.refused("visited at -1", NoSuchElementException.class, () -> loom.visited(-1, 0));
        PromiseCheck.refused("visited of iterator 4", IllegalArgumentException.class, () -> loom.visited(99, 4));
        PromiseCheck.refused("visited of iterator -1", IllegalArgumentException.class, () -> loom.visited(0, -1));
        PromiseCheck.refused("visited of nothing", NoSuchElementException.class, () -> new Polyloom().visited(0, 0));
    }

    /** Statement 0 at 0 to 3 for j too, statement 1 at 2 to 5, statement 2 at each second number. */
    private static Polyloom overlapping() {
        Polyloom loom = new Polyloom();
        loom.statement(2);
        loom.statement(1);
        loom.script('c', 1, 0, 2);
        return loom;
    }

    private static void promise30Pieces() {
        Polyloom loom = overlapping();
        PromiseCheck.due("0 to 1, 2 to 3, 4 to 5", 3, loom.pieces());
        loom.script('c', 1, 0, 2);
        PromiseCheck.due("0 to 3, 4 to 7", 2, loom.pieces());
        loom.script('c', 1, 0, 1);
        PromiseCheck.due("0 to 3, 5 to 8", 2, loom.pieces());
        loom.script('c', 1, 0, -5);
        PromiseCheck.due("0 to 3 of both", 1, loom.pieces());
        loom.script('s', 0, 1, 1);
        PromiseCheck.due("0 to 3 of both, 4 to 6 of one", 2, loom.pieces());
        loom.script('s', 0, 1, 1);
        loom.script('s', 0, 1, 3);
        PromiseCheck.due("0 to 3 of both, 5 to 8 and so on of one", 4, loom.pieces());
        loom.statement(1);
        PromiseCheck.type(loom, 1);
        loom.guard(2, 2);
        PromiseCheck.due("0 and 2 of all, 1 and 3 of two", 4, loom.pieces());
        PromiseCheck.due("pieces of nothing", 0, new Polyloom().pieces());
    }

    private static void promise31Piece() {
        Polyloom loom = overlapping();
        int[][] due = {{0, 1, 1, 8}, {2, 3, 3, 10}, {4, 5, 2, 2}};
        for (int index = 0; index < 3; index++) {
            for (int thing = 0; thing < 4; thing++) {
                char what = "lgsn".charAt(thing);
                PromiseCheck.due("piece " + index + " " + what, due[index][thing], loom.piece(index, what));
            }
        }
        PromiseCheck.refused("piece 3", NoSuchElementException.class, () -> loom.piece(3, 'l'));
        PromiseCheck.refused("piece -1", NoSuchElementException.class, () -> loom.piece(-1, 'l'));
        PromiseCheck.refused("piece 0 z", IllegalArgumentException.class, () -> loom.piece(0, 'z'));
        PromiseCheck.refused("piece 9 z", IllegalArgumentException.class, () -> loom.piece(9, 'z'));
        loom.script('t', 0, 3, 0);
        PromiseCheck.due("the least tile", 0, loom.piece(0, 'l'));
        PromiseCheck.due("the greatest tile", 1, loom.piece(0, 'g'));
        PromiseCheck.due("points of tiles", 20, loom.piece(0, 'n'));
        loom.script('r', 1, 0, 0);
        loom.script('d', 0, 0, 0);
        PromiseCheck.due("the least number below 0", -5, loom.piece(0, 'l'));
        loom.script('t', 0, 4, 0);
        PromiseCheck.due("the least tile below 0, rounded down", -2, loom.piece(0, 'l'));
        PromiseCheck.due("the greatest tile by -3 to 0", 0, loom.piece(2, 'g'));
    }

    private static void promise32Footprint() {
        Polyloom loom = PromiseCheck.stencil();
        // The points with i of 1 touch (1, 0) to (1, 3) and (0, 1) to (0, 3).
        PromiseCheck.due("footprint of i = 1", 7, loom.footprint(0, 1));
        PromiseCheck.due("footprint of j = 3", 7, loom.footprint(1, 3));
        PromiseCheck.due("footprint of no number", 0, loom.footprint(0, 0));
        PromiseCheck.due("footprint of all", 15, loom.footprint(2, 0));
        loom.script('t', 0, 2, 0);
        PromiseCheck.due("footprint of a tile of i = 2, 3", 3 + 4 + 4, loom.footprint(0, 1));
        PromiseCheck.due("footprint of a tile of i = 1", 7, loom.footprint(0, 0));
        PromiseCheck.write(loom, 0, 1, 1);
        PromiseCheck.due("footprint of two arrays", 3 + 4 + 3 + 2, loom.footprint(0, 1));
        PromiseCheck.refused("footprint of row 4", IllegalArgumentException.class, () -> loom.footprint(4, 0));
        PromiseCheck.refused("footprint of row -1", IllegalArgumentException.class, () -> loom.footprint(-1, 0));
        PromiseCheck.due("footprint of the least int", 0, loom.footprint(0, Integer.MIN_VALUE));
    }

    /** At each i: reads (0), reads (i), writes (0). */
    private static Polyloom summing() {
        Polyloom loom = new Polyloom();
        loom.statement(1);
        PromiseCheck.write(loom, 0, 0, 0);
        PromiseCheck.read(loom, 0, 0, 0);
        PromiseCheck.read(loom, 0, 1, 1);
        return loom;
    }

    private static void promise33Reuse() {
        Polyloom loom = summing();
        // The writes have a distance of 1, the reads behind them of 0, but for the first one.
        PromiseCheck.due("reuse(0)", 3, loom.reuse(0));
        PromiseCheck.due("reuse(1)", 7, loom.reuse(1));
        PromiseCheck.due("reuse(5000)", 7, loom.reuse(5000));
        PromiseCheck.refused("reuse(5001)", IllegalArgumentException.class, () -> loom.reuse(5001));
        PromiseCheck.refused("reuse(-1)", IllegalArgumentException.class, () -> loom.reuse(-1));
        Polyloom twice = new Polyloom();
        twice.statement(2);
        PromiseCheck.write(twice, 0, 0, 0, 1);
        PromiseCheck.due("reuse of 3 other cells, by i", 12, twice.reuse(3));
        PromiseCheck.due("reuse of 2 other cells, by i", 0, twice.reuse(2));
        twice.script('x', 0, 1, 0);
        PromiseCheck.due("reuse of no other cells, by j", 12, twice.reuse(0));
        twice.script('r', 0, 0, 0);
        PromiseCheck.due("reuse of no other cells, by -j", 12, twice.reuse(0));
        twice.script('x', 0, 1, 0);
        twice.script('s', 0, 1, 1);
        PromiseCheck.due("reuse by i - j, j", 12, twice.reuse(5000));
    }

    private static void promise34Layout() {
        Polyloom loom = new Polyloom();
        PromiseCheck.due("layout of array 0", false, loom.layout(0, true));
        PromiseCheck.due("layout of array 0 then", true, loom.layout(0, true));
        PromiseCheck.due("layout of array 3", false, loom.layout(3, false));
        PromiseCheck.due("layout of array 0 once more", true, loom.layout(0, false));
        PromiseCheck.due("layout of array 0 at last", false, loom.layout(0, false));
        PromiseCheck.refused("layout of array 4", IndexOutOfBoundsException.class, () -> loom.layout(4, true));
        PromiseCheck.refused("layout of array -1", IndexOutOfBoundsException.class, () -> loom.layout(-1, true));
    }

    private static void promise35Misses() {
        Polyloom loom = new Polyloom();
        loom.statement(2);
        PromiseCheck.write(loom, 0, 2, 1);
        PromiseCheck.second(loom, 0, 0, 1, 0, 0, -2);
        // (i, -2) to (i, 1): each i has 2 lines of 2 cells, and 2 of 4 or 16.
        PromiseCheck.due("misses(1, 1)", 16, loom.misses(1, 1));
        PromiseCheck.due("misses(2, 1)", 8, loom.misses(2, 1));
        PromiseCheck.due("misses(3, 1)", 8, loom.misses(3, 1));
        PromiseCheck.due("misses(16, 64)", 8, loom.misses(16, 64));
        loom.layout(1, true);
        PromiseCheck.due("misses(2, 1), another array transposed", 8, loom.misses(2, 1));
        loom.layout(2, true);
        PromiseCheck.due("misses(2, 1), transposed", 16, loom.misses(2, 1));
        PromiseCheck.due("misses(2, 3), transposed", 16, loom.misses(2, 3));
        PromiseCheck.due("misses(2, 4), transposed", 8, loom.misses(2, 4));
        loom.script('x', 0, 1, 0);
        PromiseCheck.due("misses(2, 1), transposed, by j", 8, loom.misses(2, 1));
        PromiseCheck.read(loom, 0, 2, 0);
        PromiseCheck.second(loom, 0, 0, 0, 0, 0, -2);
        // (0, -2) comes ahead of each write: with 2 lines it stays, with 1 it goes, but for the first.
        PromiseCheck.due("misses(1, 2) with one that comes again", 16, loom.misses(1, 2));
        PromiseCheck.due("misses(1, 1) with one that comes again", 15 + 15, loom.misses(1, 1));
        int[][] wrong = {{0, 1}, {17, 1}, {1, 0}, {1, 65}, {-1, 1}, {1, -1}};
        for (int[] of : wrong) {
            PromiseCheck.refused("misses(" + of[0] + ", " + of[1] + ")", IllegalArgumentException.class, () -> loom.misses(of[0], of[1]));
        }
        Polyloom summing = summing();
        PromiseCheck.due("misses of two arrays, 1 line", 9, summing.misses(16, 1));
        PromiseCheck.due("misses of two arrays, 2 lines", 5, summing.misses(16, 2));
    }

    private static void promise36Storage() {
        Polyloom loom = PromiseCheck.stencil();
        PromiseCheck.due("storage(1) of what is not there", 1, loom.storage(1));
        loom.script('x', 0, 1, 0);
        // By j, i a cell is read by the next i and by the next j, when 3 more were written.
        PromiseCheck.due("storage(0) by j, i", least(loom), loom.storage(0));
        Polyloom sums = summing();
        PromiseCheck.due("storage of one cell", 1, sums.storage(0));
        PromiseCheck.due("storage of what is read alone", 1, sums.storage(1));
        Polyloom chain = new Polyloom();
        chain.statement(1);
        PromiseCheck.write(chain, 0, 0, 1);
        PromiseCheck.read(chain, 0, 0, 1, 0, 0, 0, -2);
        // (i) reads (i - 2), when (i - 1) was written: 100 and 200 are to be apart, 300 and 100 need not be.
        PromiseCheck.due("storage of what is 100 apart", 3, chain.storage(0));
        PromiseCheck.second(chain, 0, 1);
        PromiseCheck.due("storage of (i, 0) out of (i - 2, i), none of which was written", 1, chain.storage(0));
        Polyloom fill = new Polyloom();
        fill.statement(1);
        PromiseCheck.write(fill, 0, 0, 0);
        PromiseCheck.second(fill, 0, 1, 0, 0, 0, -3);
        fill.statement(1);
        PromiseCheck.read(fill, 1, 0, 0);
        PromiseCheck.second(fill, 1, 1, 0, 0, 0, -3);
        PromiseCheck.due("storage of one by one", 1, fill.storage(0));
        fill.script('n', 0, 0, 0);
        PromiseCheck.due("storage of 4 at once, below 0 too", 4, fill.storage(0));
        fill.reset();
        fill.place(1, 0, 0);
        fill.place(0, 0, 1);
        fill.script('n', 0, 0, 0);
        PromiseCheck.due("storage of what is read first alone", 1, fill.storage(0));
    }

    /** Writes 0 to 99, 100 to 9900 by hundreds, and one more, and reads them then: by these all gaps are there. */
    private static Polyloom gaps(int first, int last) {
        Polyloom loom = new Polyloom();
        for (int s = 0; s < 4; s++) {
            loom.statement(1);
            PromiseCheck.type(loom, 0, 0, 0, s == 2 ? 0 : 3, s == 2 ? 0 : 9);
            loom.bound(s, 0, false);
        }
        loom.parameter(30);
        PromiseCheck.write(loom, 0, 1, 0);
        PromiseCheck.second(loom, 0, 1);
        PromiseCheck.write(loom, 1, 1, 1);
        PromiseCheck.write(loom, 2, 1, 0, 0, 0, 3, first);
        PromiseCheck.second(loom, 2, 0, 0, 0, last > 9 ? 3 : 0, last > 9 ? last - 90 : last);
        PromiseCheck.read(loom, 3, 1, 0);
        PromiseCheck.second(loom, 3, 1);
        PromiseCheck.read(loom, 3, 1, 1);
        PromiseCheck.read(loom, 3, 1, 0, 0, 0, 3, first);
        PromiseCheck.second(loom, 3, 0, 0, 0, last > 9 ? 3 : 0, last > 9 ? last - 90 : last);
        loom.script('n', 0, 0, 0);
        return loom;
    }

    private static void promise36StorageMost() {
        PromiseCheck.due("storage with gaps of 1 to 9999", 10000, gaps(9, 99).storage(1));
        PromiseCheck.refused("storage with gaps of 1 to 10000", NoSuchElementException.class, () -> gaps(10, 0).storage(1));
        PromiseCheck.due("storage with gaps of 1 to 9900 and less than 9999", 9999, gaps(9, 98).storage(1));
    }

    /** The least modulus of array 0 of the stencil, by the words of the document: what is read is there. */
    private static int least(Polyloom loom) {
        for (int modulus = 1; modulus < 1000; modulus++) {
            int[] holds = new int[1000];
            boolean[] written = new boolean[1000];
            boolean isEnough = true;
            for (int time = 0; time < 9; time++) {
                int number = 100 * loom.visited(time, 0) + loom.visited(time, 1);
                for (int read : new int[] {number - 100, number - 1}) {
                    isEnough = isEnough && (!written[read] || holds[read % modulus] == read);
                }
                written[number] = true;
                holds[number % modulus] = number;
            }
            if (isEnough) {
                return modulus;
            }
        }
        return -1;
    }

    private static void promise36StorageRefused() {
        Polyloom loom = PromiseCheck.stencil();
        PromiseCheck.refused("storage(4)", IndexOutOfBoundsException.class, () -> loom.storage(4));
        PromiseCheck.refused("storage(-1)", IndexOutOfBoundsException.class, () -> loom.storage(-1));
        loom.script('r', 0, 0, 0);
        PromiseCheck.refused("storage of what is not legal", NoSuchElementException.class, () -> loom.storage(0));
        PromiseCheck.refused("storage of another array", NoSuchElementException.class, () -> loom.storage(3));
        Polyloom alike = new Polyloom();
        alike.statement(1);
        PromiseCheck.range(alike, 0, 0, 0, 1);
        PromiseCheck.write(alike, 0, 0, 1);
        PromiseCheck.second(alike, 0, -20, 0, 0, -20);
        PromiseCheck.read(alike, 0, 1, 0);
        alike.statement(1);
        PromiseCheck.range(alike, 1, 0, 0, 1);
        PromiseCheck.read(alike, 1, 0, 1);
        PromiseCheck.second(alike, 1, -20, 0, 0, -20);
        alike.script('n', 0, 0, 0);
        // (0, -80) and (1, -100) are -80 and 0: 3 is the least that does not divide 80.
        PromiseCheck.due("storage of two that are 80 apart", 3, alike.storage(0));
        PromiseCheck.write(alike, 0, 0, 2);
        PromiseCheck.second(alike, 0, -20, 0, 0, 20);
        PromiseCheck.due("storage of what is read elsewhere", 1, alike.storage(0));
        // (0, 100) and (1, 0) have one number, so that no modulus is enough.
        Polyloom same = new Polyloom();
        same.statement(1);
        PromiseCheck.range(same, 0, 0, 0, 1);
        PromiseCheck.write(same, 0, 0, 1);
        same.parameter(5);
        PromiseCheck.second(same, 0, 0, 0, 0, 20);
        same.statement(1);
        PromiseCheck.range(same, 1, 0, 0, 1);
        PromiseCheck.write(same, 1, 0, 1, 0, 0, 0, 1);
        same.statement(1);
        PromiseCheck.range(same, 2, 0, 0, 0);
        PromiseCheck.read(same, 2, 0, 1);
        PromiseCheck.second(same, 2, 0, 0, 0, 20);
        PromiseCheck.refused("storage of (0, 100) and (1, 0)", NoSuchElementException.class, () -> same.storage(0));
        PromiseCheck.due("storage of another array", 1, same.storage(1));
    }

    private static void promise37Messages() {
        Polyloom loom = PromiseCheck.stencil();
        // By i modulo 2: from 1 to 2 and from 2 to 3, each once.
        PromiseCheck.due("messages(0, 2)", 2, loom.messages(0, 2));
        PromiseCheck.due("messages(0, 1)", 0, loom.messages(0, 1));
        PromiseCheck.due("messages(0, 16)", 2, loom.messages(0, 16));
        // By j, for each i: from 1 to 2 and from 2 to 3.
        PromiseCheck.due("messages(1, 3)", 6, loom.messages(1, 3));
        PromiseCheck.due("messages(2, 3)", 0, loom.messages(2, 3));
        loom.script('s', 1, 0, 1);
        // By i + j for each i: from 2 to 3, 3 to 4, 4 to 5 of i = 1, 3 to 4 to 5 to 6 of 2, 4 to 5 to 6 of 3.
        PromiseCheck.due("messages(1, 16) by i, i + j", 3 + 3 + 2, loom.messages(1, 16));
        loom.script('x', 0, 1, 0);
        PromiseCheck.due("messages(0, 16) by i + j", 4, loom.messages(0, 16));
        PromiseCheck.due("messages(0, 2) by i + j", 2, loom.messages(0, 2));
        PromiseCheck.due("messages(0, 3) by i + j", 3, loom.messages(0, 3));
        loom.script('r', 0, 0, 0);
        PromiseCheck.due("messages(0, 3) by -i - j", 3, loom.messages(0, 3));
        PromiseCheck.refused("messages(3, 2)", IllegalArgumentException.class, () -> loom.messages(3, 2));
        PromiseCheck.refused("messages(-1, 2)", IllegalArgumentException.class, () -> loom.messages(-1, 2));
        PromiseCheck.refused("messages(0, 0)", IllegalArgumentException.class, () -> loom.messages(0, 0));
        PromiseCheck.refused("messages(0, 17)", IllegalArgumentException.class, () -> loom.messages(0, 17));
        Polyloom others = new Polyloom();
        others.statement(1);
        PromiseCheck.write(others, 0, 0, 0);
        PromiseCheck.due("needs o", 3, others.needs('o'));
        PromiseCheck.due("messages for o", 0, others.messages(0, 4));
        others.statement(1);
        PromiseCheck.read(others, 1, 0, 0, 0, 0, 0, 0);
        PromiseCheck.due("messages of one writer to all", 3, others.messages(0, 4));
        others.script('n', 0, 0, 0);
        PromiseCheck.due("messages behind a row of places", 3, others.messages(1, 4));
        PromiseCheck.due("messages by places", 1, others.messages(0, 4));
    }

    private static void promise38Cell() {
        Polyloom loom = new Polyloom();
        PromiseCheck.due("cell (0, 0) of 0", 0, loom.cell(0, 0, 0, false));
        PromiseCheck.due("cell (500, 500) of 3", (50500 + 21) % 1009, loom.cell(3, 500, 500, true));
        PromiseCheck.due("cell (-500, -500) of 1", 1009 * 51 - 50500 + 7, loom.cell(1, -500, -500, true));
        PromiseCheck.refused("cell of array 4", IndexOutOfBoundsException.class, () -> loom.cell(4, 501, 0, true));
        PromiseCheck.refused("cell of array -1", IndexOutOfBoundsException.class, () -> loom.cell(-1, 0, 0, true));
        PromiseCheck.refused("cell (501, 0)", IllegalArgumentException.class, () -> loom.cell(0, 501, 0, true));
        PromiseCheck.refused("cell (-501, 0)", IllegalArgumentException.class, () -> loom.cell(0, -501, 0, true));
        PromiseCheck.refused("cell (0, 501)", IllegalArgumentException.class, () -> loom.cell(0, 0, 501, true));
        PromiseCheck.refused("cell (0, -501)", IllegalArgumentException.class, () -> loom.cell(0, 0, -501, true));
        loom.statement(1);
        loom.statement(1);
        PromiseCheck.write(loom, 1, 0, 1);
        PromiseCheck.read(loom, 1, 0, 1, 0, 0, 0, -1);
        PromiseCheck.read(loom, 1, 1, 1);
        int zero = (31 * (909 + 2 * 7) + 2) % 10007;
        int one = (31 * (zero + 2 * 107) + 2) % 10007;
        int two = (31 * (one + 2 * 207) + 2) % 10007;
        int three = (31 * (two + 2 * 307) + 2) % 10007;
        PromiseCheck.due("cell (0, 0) behind all", zero, loom.cell(0, 0, 0, false));
        PromiseCheck.due("cell (1, 0) behind all", one, loom.cell(0, 1, 0, false));
        PromiseCheck.due("cell (3, 0) behind all", three, loom.cell(0, 3, 0, true));
        PromiseCheck.due("cell (1, 0) of another array", 107, loom.cell(1, 1, 0, true));
        PromiseCheck.due("cell (4, 0)", 400, loom.cell(0, 4, 0, true));
        loom.script('r', 0, 0, 0);
        PromiseCheck.due("cell (3, 0) backwards", (31 * (200 + 2 * 307) + 2) % 10007, loom.cell(0, 3, 0, true));
        PromiseCheck.due("cell (0, 0) backwards", zero, loom.cell(0, 0, 0, true));
        PromiseCheck.due("cell (3, 0) in the first order", three, loom.cell(0, 3, 0, false));
    }

    private static void promise39IsSame() {
        Polyloom loom = PromiseCheck.stencil();
        PromiseCheck.due("isSame() at first", true, loom.isSame());
        loom.script('x', 0, 1, 0);
        PromiseCheck.due("isSame() by j, i", true, loom.isSame());
        loom.script('r', 0, 0, 0);
        PromiseCheck.due("isSame() by -j, i", false, loom.isSame());
        loom.script('r', 0, 0, 0);
        loom.script('r', 1, 0, 0);
        PromiseCheck.due("isSame() by j, -i", false, loom.isSame());
        loom.reset();
        PromiseCheck.due("isSame() again", true, loom.isSame());
        Polyloom sums = summing();
        sums.script('r', 0, 0, 0);
        PromiseCheck.due("isSame() of a sum backwards", false, sums.isSame());
        sums.reduction(0, true);
        PromiseCheck.due("isSame() of a reduction backwards", true, sums.isSame());
    }

    private static void tooMany() {
        Polyloom loom = PromiseCheck.crowded();
        PromiseCheck.refused("time of too many", IllegalStateException.class, () -> loom.time(0, -1));
        PromiseCheck.refused("time of no statement, of too many", IndexOutOfBoundsException.class, () -> loom.time(1, 0));
        PromiseCheck.refused("visited of too many", IllegalStateException.class, () -> loom.visited(-1, 0));
        PromiseCheck.refused("visited(0, 4) of too many", IllegalArgumentException.class, () -> loom.visited(0, 4));
        PromiseCheck.refused("pieces of too many", IllegalStateException.class, () -> loom.pieces());
        PromiseCheck.refused("piece of too many", IllegalStateException.class, () -> loom.piece(-1, 'l'));
        PromiseCheck.refused("piece z of too many", IllegalArgumentException.class, () -> loom.piece(0, 'z'));
        PromiseCheck.refused("footprint of too many", IllegalStateException.class, () -> loom.footprint(0, 0));
        PromiseCheck.refused("footprint(3) of too many", IllegalArgumentException.class, () -> loom.footprint(3, 0));
        PromiseCheck.refused("reuse of too many", IllegalStateException.class, () -> loom.reuse(0));
        PromiseCheck.refused("reuse(-1) of too many", IllegalArgumentException.class, () -> loom.reuse(-1));
        PromiseCheck.due("layout of too many", false, loom.layout(0, true));
        PromiseCheck.refused("misses of too many", IllegalStateException.class, () -> loom.misses(1, 1));
        PromiseCheck.refused("misses(0, 1) of too many", IllegalArgumentException.class, () -> loom.misses(0, 1));
        PromiseCheck.refused("storage of too many", IllegalStateException.class, () -> loom.storage(0));
        PromiseCheck.refused("storage(4) of too many", IndexOutOfBoundsException.class, () -> loom.storage(4));
        PromiseCheck.refused("messages of too many", IllegalStateException.class, () -> loom.messages(0, 1));
        PromiseCheck.refused("messages(0, 0) of too many", IllegalArgumentException.class, () -> loom.messages(0, 0));
        PromiseCheck.refused("cell of too many", IllegalStateException.class, () -> loom.cell(0, 0, 0, false));
        PromiseCheck.refused("cell (501, 0) of too many", IllegalArgumentException.class, () -> loom.cell(0, 501, 0, false));
        PromiseCheck.refused("isSame of too many", IllegalStateException.class, () -> loom.isSame());
    }
}
