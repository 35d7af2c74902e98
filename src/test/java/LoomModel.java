import java.util.ArrayList;
import java.util.Arrays;
import java.util.Collections;
import java.util.HashMap;
import java.util.HashSet;
import java.util.LinkedHashSet;
import java.util.List;
import java.util.Map;
import java.util.NoSuchElementException;
import java.util.Set;
import java.util.TreeMap;
import java.util.TreeSet;

/** The document's words, taken one by one and slowly: what Polyloom is compared with. */
final class LoomModel {
    private static final class Nest {
        int depth;
        final List<List<int[]>> lower = List.of(new ArrayList<>(), new ArrayList<>(), new ArrayList<>());
        final List<List<int[]>> upper = List.of(new ArrayList<>(), new ArrayList<>(), new ArrayList<>());
        final List<int[]> guards = new ArrayList<>();
        final List<Integer> moduli = new ArrayList<>();
        final int[] places = new int[3];
        final List<Touch> reads = new ArrayList<>();
        Touch write;
        Touch last;
        boolean told;
        List<int[]> rows = new ArrayList<>();
    }

    private static final class Touch {
        int array;
        int[] first = new int[5];
        int[] second = new int[5];
        boolean unknown;
        boolean isWrite;
    }

    private record Pt(int nest, int i, int j, int k) {
        int at(int iterator) {
            return iterator == 0 ? i : iterator == 1 ? j : k;
        }
    }

    private record Cell(int array, int first, int second) {
        long number() {
            return 100L * first + second;
        }
    }

    private record Need(int earlier, int later, int kind) {
    }

    private static final class TooMany extends Exception {
        private static final long serialVersionUID = 1L;
    }

    private final List<Integer> row = new ArrayList<>();
    private int n = 4;
    private final List<Nest> nests = new ArrayList<>();
    private final boolean[] transposed = new boolean[4];
    private List<Pt> points;
    private List<Need> needs;
    private boolean tooMany;
    private int gone;

    // ---- expressions and statements

    int type(int number) {
        if (number < -20 || number > 20) {
            throw new IllegalArgumentException();
        }
        if (row.size() == 5) {
            throw new IllegalStateException();
        }
        row.add(number);
        return row.size();
    }

    int clearRow() {
        int size = row.size();
        row.clear();
        return size;
    }

    int parameter(int value) {
        if (value < 0 || value > 30) {
            throw new IllegalArgumentException();
        }
        int before = n;
        n = value;
        changed();
        return before;
    }

    int statement(int depth) {
        if (depth < 1 || depth > 3) {
            throw new IllegalArgumentException();
        }
        if (nests.size() == 5) {
            throw new IllegalStateException();
        }
        Nest nest = new Nest();
        nest.depth = depth;
        nest.places[0] = nests.size();
        nests.add(nest);
        firstRows();
        changed();
        return nests.size() - 1;
    }

    int bound(int statement, int iterator, boolean isLower) {
        Nest nest = nest(statement);
        if (iterator < 0 || iterator >= nest.depth) {
            throw new IndexOutOfBoundsException();
        }
        if (deepest() >= iterator) {
            throw new IllegalArgumentException();
        }
        if (row.isEmpty()) {
            throw new UnsupportedOperationException();
        }
        List<int[]> list = (isLower ? nest.lower : nest.upper).get(iterator);
        if (list.size() == 2) {
            throw new IllegalStateException();
        }
        list.add(taken());
        changed();
        return list.size();
    }

    int guard(int statement, int modulus) {
        Nest nest = nest(statement);
        if (deepest() >= nest.depth || modulus != 0 && (modulus < 2 || modulus > 9)) {
            throw new IllegalArgumentException();
        }
        if (row.isEmpty()) {
            throw new UnsupportedOperationException();
        }
        if (nest.guards.size() == 2) {
            throw new IllegalStateException();
        }
        nest.guards.add(taken());
        nest.moduli.add(modulus);
        changed();
        return nest.guards.size();
    }

    int place(int statement, int which, int place) {
        Nest nest = nest(statement);
        if (which < 0 || which > 2 || place < 0 || place > 9) {
            throw new IllegalArgumentException();
        }
        int before = nest.places[which];
        nest.places[which] = place;
        changed();
        return before;
    }

    int access(int statement, int array, boolean isWrite, boolean isSecond) {
        Nest nest = nest(statement);
        if (deepest() >= nest.depth || !isSecond && (array < 0 || array > 3)) {
            throw new IllegalArgumentException();
        }
        if (row.isEmpty() || isSecond && nest.last == null) {
            throw new UnsupportedOperationException();
        }
        if (!isSecond && !isWrite && nest.reads.size() == 3) {
            throw new IllegalStateException();
        }
        if (isSecond) {
            nest.last.second = taken();
        } else {
            Touch touch = new Touch();
            touch.array = array;
            touch.first = taken();
            touch.isWrite = isWrite;
            if (isWrite) {
                nest.write = touch;
            } else {
                nest.reads.add(touch);
            }
            nest.last = touch;
        }
        changed();
        return nest.reads.size() + (nest.write == null ? 0 : 1);
    }

    boolean unknown(int statement, int access, boolean is) {
        Nest nest = nest(statement);
        Touch touch = access == 3 ? nest.write : access >= 0 && access < nest.reads.size() ? nest.reads.get(access) : null;
        if (touch == null) {
            throw new IndexOutOfBoundsException();
        }
        boolean before = touch.unknown;
        touch.unknown = is;
        changed();
        return before;
    }

    boolean reduction(int statement, boolean is) {
        Nest nest = nest(statement);
        boolean before = nest.told;
        nest.told = is;
        changed();
        return before;
    }

    // ---- points

    int count(int statement) {
        nest(statement);
        look();
        return ofNest(statement).size();
    }

    int point(int statement, int index, int iterator) {
        if (iterator < 0 || iterator >= nest(statement).depth) {
            throw new IndexOutOfBoundsException();
        }
        look();
        List<Pt> all = ofNest(statement);
        if (index < 0 || index >= all.size()) {
            throw new NoSuchElementException();
        }
        return all.get(index).at(iterator);
    }

    int period(int statement) {
        Nest nest = nest(statement);
        long[] counts = new long[26];
        for (int p = 6; p <= 25; p++) {
            gone = 0;
            List<Pt> all = new ArrayList<>();
            try {
                walk(nest, statement, 0, new int[3], p, all);
            } catch (TooMany e) {
                throw new NoSuchElementException();
            }
            counts[p] = all.size();
        }
        for (int q = 1; q <= 4; q++) {
            boolean fits = true;
            for (int rest = 0; rest < q; rest++) {
                List<Long> series = new ArrayList<>();
                for (int p = 6; p <= 25; p++) {
                    if (p % q == rest) {
                        series.add(counts[p]);
                    }
                }
                for (int round = 0; round < 4; round++) {
                    List<Long> next = new ArrayList<>();
                    for (int x = 0; x + 1 < series.size(); x++) {
                        next.add(series.get(x + 1) - series.get(x));
                    }
                    series = next;
                }
                for (long d : series) {
                    fits &= d == 0;
                }
            }
            if (fits) {
                return q;
            }
        }
        throw new NoSuchElementException();
    }

    int first(int iterator) {
        if (iterator < 0 || iterator > 3) {
            throw new IllegalArgumentException();
        }
        look();
        if (points.isEmpty()) {
            throw new NoSuchElementException();
        }
        return iterator == 3 ? points.get(0).nest() : points.get(0).at(iterator);
    }

    // ---- needs and schedules

    int needs(char kind) {
        int number = "fao".indexOf(kind);
        if (number < 0) {
            throw new IllegalArgumentException();
        }
        look();
        int count = 0;
        for (Need need : needs) {
            count += need.kind() == number ? 1 : 0;
        }
        return count;
    }

    int need(int index, char what) {
        if ("stkijl".indexOf(what) < 0) {
            throw new IllegalArgumentException();
        }
        look();
        if (index < 0 || index >= needs.size()) {
            throw new NoSuchElementException();
        }
        Need need = needs.get(index);
        Pt p = points.get(need.earlier());
        Pt q = points.get(need.later());
        int least = Math.min(nests.get(p.nest()).depth, nests.get(q.nest()).depth);
        return switch (what) {
            case 's' -> p.nest();
            case 't' -> q.nest();
            case 'k' -> "fao".charAt(need.kind());
            case 'i' -> q.i() - p.i();
            case 'j' -> least < 2 ? 0 : q.j() - p.j();
            default -> least < 3 ? 0 : q.k() - p.k();
        };
    }

    int script(char step, int a, int b, int c) {
        int rows = rows();
        boolean isRowA = a >= 0 && a < rows;
        boolean isRowB = b >= 0 && b < rows;
        boolean fine = switch (step) {
            case 'x' -> isRowA && isRowB && a != b;
            case 'r', 'd' -> isRowA;
            case 's' -> isRowA && isRowB && a != b && c != 0 && Math.abs((long) c) <= 5;
            case 't' -> isRowA && b >= 2 && b <= 20;
            case 'c' -> a >= 0 && a < nests.size() && isRowB && Math.abs((long) c) <= 20;
            case 'n' -> true;
            default -> false;
        };
        if (!fine) {
            throw new IllegalArgumentException();
        }
        if (nests.isEmpty()) {
            return 3;
        }
        List<int[]> of0 = nests.get(0).rows;
        if ("rst".indexOf(step) >= 0 && of0.get(a)[5] > 1 || step == 's' && of0.get(b)[5] > 1 || step == 'd' && rows == 1) {
            throw new UnsupportedOperationException();
        }
        List<List<int[]>> made = new ArrayList<>();
        for (int s = 0; s < nests.size(); s++) {
            List<int[]> next = stepped(nests.get(s), s, step, a, b, c);
            for (int[] r : next) {
                for (int x = 0; x < 5; x++) {
                    if (Math.abs(r[x]) > 999) {
                        throw new UnsupportedOperationException();
                    }
                }
            }
            made.add(next);
        }
        if (made.get(0).size() > 4) {
            throw new IllegalStateException();
        }
        for (int s = 0; s < nests.size(); s++) {
            nests.get(s).rows = made.get(s);
        }
        return made.get(0).size();
    }

    private static List<int[]> stepped(Nest nest, int number, char step, int a, int b, int c) {
        List<int[]> rows = new ArrayList<>();
        for (int[] r : nest.rows) {
            rows.add(r.clone());
        }
        switch (step) {
            case 'x' -> Collections.swap(rows, a, b);
            case 'r' -> {
                for (int x = 0; x < 5; x++) {
                    rows.get(a)[x] *= -1;
                }
            }
            case 's' -> {
                for (int x = 0; x < 5; x++) {
                    rows.get(a)[x] += c * rows.get(b)[x];
                }
            }
            case 't' -> {
                int[] tile = rows.get(a).clone();
                tile[5] = b;
                rows.add(a, tile);
            }
            case 'c' -> {
                if (a == number) {
                    rows.get(b)[4] += c;
                }
            }
            case 'd' -> rows.remove(a);
            default -> rows.add(0, new int[] {0, 0, 0, 0, nest.places[0], 1});
        }
        return rows;
    }

    int reset() {
        int before = rows();
        firstRows();
        return before;
    }

    int rows() {
        return nests.isEmpty() ? 3 : nests.get(0).rows.size();
    }

    int row(int statement, int row, int number) {
        Nest nest = nest(statement);
        if (row < 0 || row >= rows() || number < 0 || number > 5) {
            throw new IllegalArgumentException();
        }
        return nest.rows.get(row)[number];
    }

    boolean isLegal() {
        look();
        return firstBroken() < 0;
    }

    int broken() {
        look();
        int first = firstBroken();
        if (first < 0) {
            throw new NoSuchElementException();
        }
        return first;
    }

    int carried(int row) {
        checkRow(row);
        look();
        int count = 0;
        for (Need need : needs) {
            count += level(need) == row ? 1 : 0;
        }
        return count;
    }

    boolean isParallel(int row) {
        return carried(row) == 0;
    }

    int band(int row) {
        checkRow(row);
        look();
        int size = 0;
        for (int r = row; r < rows(); r++) {
            for (Need need : needs) {
                if (level(need) >= row && numberOf(r, points.get(need.later())) < numberOf(r, points.get(need.earlier()))) {
                    return size;
                }
            }
            size++;
        }
        return size;
    }

    int find() {
        look();
        int depth = 0;
        for (Nest nest : nests) {
            depth = Math.max(depth, nest.depth);
        }
        List<int[]> found = new ArrayList<>();
        Set<Need> open = new LinkedHashSet<>(needs);
        while (found.size() < depth) {
            int[] best = bestRow(found, open, depth);
            if (best == null) {
                break;
            }
            found.add(best);
            open.removeIf(need -> gain(best, need) != 0);
        }
        if (found.isEmpty()) {
            throw new NoSuchElementException();
        }
        for (Nest nest : nests) {
            nest.rows = new ArrayList<>();
            for (int[] f : found) {
                nest.rows.add(new int[] {f[0], nest.depth > 1 ? f[1] : 0, nest.depth > 2 ? f[2] : 0, 0, 0, 1});
            }
        }
        return found.size();
    }

    private int[] bestRow(List<int[]> found, Set<Need> open, int depth) {
        int[] best = null;
        long[] bestKey = null;
        for (int code = 0; code < 64; code++) {
            int[] c = {code / 16 - 1, code / 4 % 4 - 1, code % 4 - 1};
            boolean isFlat = depth < 2 && c[1] != 0 || depth < 3 && c[2] != 0;
            if (isFlat || rank(found, c) <= found.size()) {
                continue;
            }
            long sum = 0;
            boolean isGoing = true;
            for (Need need : open) {
                long gain = gain(c, need);
                sum += gain;
                isGoing &= gain >= 0;
            }
            long[] key = {sum, Math.abs(c[0]) + Math.abs(c[1]) + Math.abs(c[2]), c[0], c[1], c[2]};
            if (isGoing && (bestKey == null || Arrays.compare(key, bestKey) < 0)) {
                best = c;
                bestKey = key;
            }
        }
        return best;
    }

    /** Gauss, by fractions without divisions. */
    private static int rank(List<int[]> ahead, int[] more) {
        List<long[]> rows = new ArrayList<>();
        for (int[] r : ahead) {
            rows.add(new long[] {r[0], r[1], r[2]});
        }
        rows.add(new long[] {more[0], more[1], more[2]});
        int rank = 0;
        for (int column = 0; column < 3; column++) {
            int pivot = -1;
            for (int r = rank; r < rows.size() && pivot < 0; r++) {
                pivot = rows.get(r)[column] != 0 ? r : -1;
            }
            if (pivot < 0) {
                continue;
            }
            Collections.swap(rows, rank, pivot);
            long[] head = rows.get(rank);
            for (int r = rank + 1; r < rows.size(); r++) {
                long[] other = rows.get(r);
                long factor = other[column];
                for (int x = 0; x < 3; x++) {
                    other[x] = other[x] * head[column] - factor * head[x];
                }
            }
            rank++;
        }
        return rank;
    }

    private long gain(int[] c, Need need) {
        Pt p = points.get(need.earlier());
        Pt q = points.get(need.later());
        long gain = 0;
        for (int x = 0; x < 3; x++) {
            long later = x < nests.get(q.nest()).depth ? q.at(x) : 0;
            long earlier = x < nests.get(p.nest()).depth ? p.at(x) : 0;
            gain += c[x] * (later - earlier);
        }
        return gain;
    }

    // ---- orders, memories, machines

    int time(int statement, int index) {
        nest(statement);
        look();
        List<Pt> all = ofNest(statement);
        if (index < 0 || index >= all.size()) {
            throw new NoSuchElementException();
        }
        return visitedOrder().indexOf(all.get(index));
    }

    int visited(int time, int iterator) {
        if (iterator < 0 || iterator > 3) {
            throw new IllegalArgumentException();
        }
        look();
        if (time < 0 || time >= points.size()) {
            throw new NoSuchElementException();
        }
        Pt p = visitedOrder().get(time);
        return iterator == 3 ? p.nest() : p.at(iterator);
    }

    int pieces() {
        look();
        return allPieces().size();
    }

    int piece(int index, char what) {
        int thing = "lgsn".indexOf(what);
        if (thing < 0) {
            throw new IllegalArgumentException();
        }
        look();
        List<int[]> all = allPieces();
        if (index < 0 || index >= all.size()) {
            throw new NoSuchElementException();
        }
        return all.get(index)[thing];
    }

    private List<int[]> allPieces() {
        TreeMap<Integer, int[]> byNumber = new TreeMap<>();
        for (Pt p : points) {
            int number = numberOf(0, p);
            int[] piece = byNumber.computeIfAbsent(number, x -> new int[] {x, x, 0, 0});
            piece[2] |= 1 << p.nest();
            piece[3]++;
        }
        List<int[]> all = new ArrayList<>();
        for (int[] next : byNumber.values()) {
            int[] last = all.isEmpty() ? null : all.get(all.size() - 1);
            if (last != null && last[1] == next[0] - 1 && last[2] == next[2]) {
                last[1] = next[0];
                last[3] += next[3];
            } else {
                all.add(next);
            }
        }
        return all;
    }

    int footprint(int row, int number) {
        checkRow(row);
        look();
        Set<Cell> cells = new HashSet<>();
        for (Pt p : points) {
            if (numberOf(row, p) == number) {
                cells.addAll(touches(p));
            }
        }
        return cells.size();
    }

    int reuse(int distance) {
        if (distance < 0 || distance > 5000) {
            throw new IllegalArgumentException();
        }
        look();
        int count = 0;
        for (int d : distances()) {
            count += d <= distance ? 1 : 0;
        }
        return count;
    }

    boolean layout(int array, boolean isTransposed) {
        checkArray(array);
        boolean before = transposed[array];
        transposed[array] = isTransposed;
        return before;
    }

    int misses(int wide, int lines) {
        if (wide < 1 || wide > 16 || lines < 1 || lines > 64) {
            throw new IllegalArgumentException();
        }
        look();
        int misses = 0;
        List<List<Integer>> cache = new ArrayList<>();
        for (Pt p : visitedOrder()) {
            for (Cell c : touches(p)) {
                int x = transposed[c.array()] ? c.second() : c.first();
                int y = transposed[c.array()] ? c.first() : c.second();
                List<Integer> line = List.of(c.array(), x, Math.floorDiv(y, wide));
                if (!cache.remove(line)) {
                    misses++;
                }
                cache.add(line);
                if (cache.size() > lines) {
                    cache.remove(0);
                }
            }
        }
        return misses;
    }

    int storage(int array) {
        checkArray(array);
        look();
        if (firstBroken() >= 0) {
            throw new NoSuchElementException();
        }
        List<Pt> order = visitedOrder();
        for (int m = 1; m <= 10000; m++) {
            if (isEnough(m, array, order)) {
                return m;
            }
        }
        throw new NoSuchElementException();
    }

    private boolean isEnough(int m, int array, List<Pt> order) {
        Map<Integer, Cell> holds = new HashMap<>();
        Set<Cell> written = new HashSet<>();
        for (Pt p : order) {
            Nest nest = nests.get(p.nest());
            for (Touch read : nest.reads) {
                Cell c = cell(read, p);
                if (c.array() == array && written.contains(c) && !c.equals(holds.get((int) Math.floorMod(c.number(), (long) m)))) {
                    return false;
                }
            }
            if (nest.write != null && nest.write.array == array) {
                Cell c = cell(nest.write, p);
                written.add(c);
                holds.put((int) Math.floorMod(c.number(), (long) m), c);
            }
        }
        return true;
    }

    int messages(int row, int processors) {
        if (row < 0 || row >= rows() || processors < 1 || processors > 16) {
            throw new IllegalArgumentException();
        }
        look();
        Set<List<Integer>> sent = new HashSet<>();
        for (Need need : needs) {
            Pt p = points.get(need.earlier());
            int from = Math.floorMod(numberOf(row, p), processors);
            int to = Math.floorMod(numberOf(row, points.get(need.later())), processors);
            if (need.kind() == 0 && from != to) {
                sent.add(List.of(from, to, row == 0 ? 0 : numberOf(row - 1, p)));
            }
        }
        return sent.size();
    }

    int cell(int array, int first, int second, boolean isVisited) {
        checkArray(array);
        if (first < -500 || first > 500 || second < -500 || second > 500) {
            throw new IllegalArgumentException();
        }
        look();
        Cell c = new Cell(array, first, second);
        return run(isVisited ? visitedOrder() : points).getOrDefault(c, atFirst(c));
    }

    boolean isSame() {
        look();
        return run(visitedOrder()).equals(run(points));
    }

    // ---- figures

    long checksum() {
        look();
        run(visitedOrder());
        return sum;
    }

    float parallelShare() {
        look();
        if (points.isEmpty()) {
            throw new ArithmeticException();
        }
        int parallel = 0;
        for (int r = 0; r < rows(); r++) {
            parallel += isParallel(r) ? 1 : 0;
        }
        return (float) parallel / (float) rows();
    }

    double meanReuse() {
        look();
        List<Integer> all = distances();
        if (all.isEmpty()) {
            throw new ArithmeticException();
        }
        long total = 0;
        for (int d : all) {
            total += d;
        }
        return (double) total / (double) all.size();
    }

    boolean isConsistent() {
        look();
        boolean isReducing = false;
        for (Nest nest : nests) {
            isReducing |= isReduction(nest);
        }
        return firstBroken() >= 0 || isReducing || run(points).equals(run(visitedOrder()));
    }

    // ---- what the calls share

    private Nest nest(int statement) {
        if (statement < 0 || statement >= nests.size()) {
            throw new IndexOutOfBoundsException();
        }
        return nests.get(statement);
    }

    private void checkRow(int row) {
        if (row < 0 || row >= rows()) {
            throw new IllegalArgumentException();
        }
    }

    private static void checkArray(int array) {
        if (array < 0 || array > 3) {
            throw new IndexOutOfBoundsException();
        }
    }

    private int deepest() {
        int deepest = -1;
        for (int x = 0; x < Math.min(3, row.size()); x++) {
            deepest = row.get(x) != 0 ? x : deepest;
        }
        return deepest;
    }

    private int[] taken() {
        int[] e = new int[5];
        for (int x = 0; x < row.size(); x++) {
            e[x] = row.get(x);
        }
        row.clear();
        return e;
    }

    private void firstRows() {
        for (Nest nest : nests) {
            nest.rows = new ArrayList<>();
            for (int r = 0; r < 3; r++) {
                int[] e = {0, 0, 0, 0, 0, 1};
                e[r] = r < nest.depth ? 1 : 0;
                nest.rows.add(e);
            }
        }
    }

    private void changed() {
        points = null;
    }

    private static int value(int[] e, int i, int j, int k, int parameter) {
        return e[0] * i + e[1] * j + e[2] * k + e[3] * parameter + e[4];
    }

    private void look() {
        if (points == null) {
            tooMany = false;
            points = new ArrayList<>();
            needs = new ArrayList<>();
            try {
                gone = 0;
                for (int s = 0; s < nests.size(); s++) {
                    walk(nests.get(s), s, 0, new int[3], n, points);
                }
                if (points.size() > 2000) {
                    throw new TooMany();
                }
                points.sort(this::compare);
                findNeeds();
            } catch (TooMany e) {
                tooMany = true;
            }
        }
        if (tooMany) {
            throw new IllegalStateException();
        }
    }

    private void walk(Nest nest, int number, int level, int[] at, int parameter, List<Pt> into) throws TooMany {
        if (level == nest.depth) {
            for (int g = 0; g < nest.guards.size(); g++) {
                int v = value(nest.guards.get(g), at[0], at[1], at[2], parameter);
                int modulus = nest.moduli.get(g);
                if (modulus == 0 ? v < 0 : v % modulus != 0) {
                    return;
                }
            }
            into.add(new Pt(number, at[0], at[1], at[2]));
            return;
        }
        int low = nest.lower.get(level).isEmpty() ? 0 : Integer.MIN_VALUE;
        for (int[] e : nest.lower.get(level)) {
            low = Math.max(low, value(e, at[0], at[1], at[2], parameter));
        }
        int high = nest.upper.get(level).isEmpty() ? parameter - 1 : Integer.MAX_VALUE;
        for (int[] e : nest.upper.get(level)) {
            high = Math.min(high, value(e, at[0], at[1], at[2], parameter));
        }
        for (int x = low; x <= high; x++) {
            gone++;
            if (gone > 20000) {
                throw new TooMany();
            }
            at[level] = x;
            walk(nest, number, level + 1, at, parameter, into);
        }
        at[level] = 0;
    }

    private int compare(Pt p, Pt q) {
        return Arrays.compare(firstKey(p), firstKey(q));
    }

    private int[] firstKey(Pt p) {
        Nest nest = nests.get(p.nest());
        return new int[] {nest.places[0], p.i(), nest.places[1], nest.depth > 1 ? p.j() : -1000,
            nest.places[2], nest.depth > 2 ? p.k() : -1000, p.nest()};
    }

    private List<Pt> ofNest(int statement) {
        List<Pt> all = new ArrayList<>();
        for (Pt p : points) {
            if (p.nest() == statement) {
                all.add(p);
            }
        }
        all.sort((p, q) -> Arrays.compare(new int[] {p.i(), p.j(), p.k()}, new int[] {q.i(), q.j(), q.k()}));
        return all;
    }

    private List<Touch> accesses(Nest nest) {
        List<Touch> all = new ArrayList<>(nest.reads);
        if (nest.write != null) {
            all.add(nest.write);
        }
        return all;
    }

    private Cell cell(Touch touch, Pt p) {
        return new Cell(touch.array, value(touch.first, p.i(), p.j(), p.k(), n), value(touch.second, p.i(), p.j(), p.k(), n));
    }

    private List<Cell> touches(Pt p) {
        List<Cell> all = new ArrayList<>();
        for (Touch touch : accesses(nests.get(p.nest()))) {
            all.add(cell(touch, p));
        }
        return all;
    }

    private boolean isReduction(Nest nest) {
        return nest.told && nest.write != null && !nest.reads.isEmpty() && nest.reads.get(0).array == nest.write.array
            && Arrays.equals(nest.reads.get(0).first, nest.write.first)
            && Arrays.equals(nest.reads.get(0).second, nest.write.second);
    }

    private record Event(int point, Touch touch) {
    }

    private void findNeeds() throws TooMany {
        Map<Cell, List<Event>> byCell = new HashMap<>();
        for (int p = 0; p < points.size(); p++) {
            for (Touch touch : accesses(nests.get(points.get(p).nest()))) {
                if (!touch.unknown) {
                    byCell.computeIfAbsent(cell(touch, points.get(p)), c -> new ArrayList<>()).add(new Event(p, touch));
                }
            }
        }
        TreeSet<Integer> found = new TreeSet<>();
        for (List<Event> events : byCell.values()) {
            TreeSet<Integer> writers = new TreeSet<>();
            for (Event e : events) {
                if (e.touch().isWrite) {
                    writers.add(e.point());
                }
            }
            for (int x = 0; x < events.size(); x++) {
                for (int y = x + 1; y < events.size(); y++) {
                    Event e = events.get(x);
                    Event l = events.get(y);
                    Integer between = writers.higher(e.point());
                    if (e.point() < l.point() && (between == null || between >= l.point()) && !isFolded(e, l)) {
                        addNeed(e, l, found);
                    }
                }
            }
        }
        for (int p = 0; p < points.size() && found.size() <= 20000; p++) {
            for (int q = p + 1; q < points.size() && found.size() <= 20000; q++) {
                for (Touch a : accesses(nests.get(points.get(p).nest()))) {
                    for (Touch b : accesses(nests.get(points.get(q).nest()))) {
                        if (a.array == b.array && (a.unknown || b.unknown)) {
                            addNeed(new Event(p, a), new Event(q, b), found);
                        }
                    }
                }
            }
        }
        if (found.size() > 20000) {
            throw new TooMany();
        }
        for (int code : found) {
            needs.add(new Need(code / 10000, code / 4 % 2500, code % 4));
        }
    }

    private boolean isFolded(Event e, Event l) {
        Nest nest = nests.get(points.get(e.point()).nest());
        return nest == nests.get(points.get(l.point()).nest()) && isReduction(nest) && isOwn(nest, e.touch()) && isOwn(nest, l.touch());
    }

    private static boolean isOwn(Nest nest, Touch touch) {
        return touch == nest.write || touch == nest.reads.get(0);
    }

    private static void addNeed(Event e, Event l, Set<Integer> found) {
        if (e.touch().isWrite || l.touch().isWrite) {
            int kind = !l.touch().isWrite ? 0 : e.touch().isWrite ? 2 : 1;
            found.add(e.point() * 10000 + l.point() * 4 + kind);
        }
    }

    private int numberOf(int row, Pt p) {
        int[] e = nests.get(p.nest()).rows.get(row);
        return Math.floorDiv(value(e, p.i(), p.j(), p.k(), n), e[5]);
    }

    private int level(Need need) {
        for (int r = 0; r < rows(); r++) {
            if (numberOf(r, points.get(need.earlier())) != numberOf(r, points.get(need.later()))) {
                return r;
            }
        }
        return rows();
    }

    private int firstBroken() {
        for (int x = 0; x < needs.size(); x++) {
            int r = level(needs.get(x));
            if (r < rows() && numberOf(r, points.get(needs.get(x).later())) < numberOf(r, points.get(needs.get(x).earlier()))) {
                return x;
            }
        }
        return -1;
    }

    private List<Pt> visitedOrder() {
        List<Pt> order = new ArrayList<>(points);
        order.sort((p, q) -> {
            for (int r = 0; r < rows(); r++) {
                int c = Integer.compare(numberOf(r, p), numberOf(r, q));
                if (c != 0) {
                    return c;
                }
            }
            return compare(p, q);
        });
        return order;
    }

    private List<Integer> distances() {
        List<Integer> all = new ArrayList<>();
        List<Cell> recent = new ArrayList<>();
        for (Pt p : visitedOrder()) {
            for (Cell c : touches(p)) {
                int at = recent.indexOf(c);
                if (at >= 0) {
                    all.add(at);
                    recent.remove(at);
                }
                recent.add(0, c);
            }
        }
        return all;
    }

    private static int atFirst(Cell c) {
        return (int) Math.floorMod(c.number() + 7 * c.array(), 1009L);
    }

    private long sum;

    private Map<Cell, Integer> run(List<Pt> order) {
        Map<Cell, Integer> memory = new HashMap<>();
        sum = 17;
        for (Pt p : order) {
            Nest nest = nests.get(p.nest());
            long written = isReduction(nest) ? 1 : p.nest() + 1;
            for (int m = 0; m < nest.reads.size(); m++) {
                Cell c = cell(nest.reads.get(m), p);
                long read = memory.getOrDefault(c, atFirst(c));
                if (isReduction(nest)) {
                    written += m == 0 ? read : 3 * read;
                } else {
                    written += 31L * (m + 1) * read;
                }
            }
            written %= 10007;
            if (nest.write != null) {
                memory.put(cell(nest.write, p), (int) written);
            } else {
                written = 0;
            }
            sum = 31 * sum + p.nest() + 7L * (p.i() + p.j() + p.k()) + 3 * written;
        }
        return memory;
    }
}
