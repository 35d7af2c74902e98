import java.util.Arrays;
import java.util.NoSuchElementException;

/** Loops as solids of points: what needs what, schedules, orders, memories and machines. Not thread-safe. */
public final class Polyloom {
    private static final int NONE = -1;
    private static final int NUMBERS = 5;
    private static final int STATEMENTS = 5;
    private static final int ARRAYS = 4;
    private static final int ITERATORS = 3;
    private static final int READS = 3;
    private static final int WRITE = 3;
    private static final int ACCESSES = 4;
    private static final int ROWS = 4;
    private static final int SIZE = 5;
    private static final int MOST_POINTS = 2000;
    private static final int MOST_GONE_THROUGH = 20000;
    private static final int MOST_NEEDS = 20000;
    private static final int MOST_CELLS = 8000;
    private static final int MOST_ROW_NUMBER = 999;
    private static final int MOST_MODULUS = 10000;
    private static final int MOST_LINES = 64;
    private static final int MOST_PROCESSORS = 16;
    private static final int MOST_DISTANCE = 5000;
    private static final int MOST_CELL_NUMBER = 500;
    private static final int ABSENT = -1000;
    private static final int PRIME = 10007;

    private static final int FLOW = 0;
    private static final int ANTI = 1;
    private static final int OUTPUT = 2;

    private static final int STALE = 0;
    private static final int FRESH = 1;
    private static final int OVERFULL = 2;

    private final int[] typed;
    private int typedCount;
    private int parameterNow;
    private final Statement[] statements;
    private int statementCount;
    private final boolean[] transposed;
    private final Points points;
    private final Cells cells;
    private final Needs needs;
    private final Schedule schedule;
    private final Visits visits;
    private final Finder finder;
    private final Memory firstMemory;
    private final Memory visitedMemory;
    private final Traffic traffic;
    private final Folding folding;
    private int structure;

    public Polyloom() {
        typed = new int[NUMBERS];
        parameterNow = 4;
        statements = new Statement[STATEMENTS];
        for (int s = 0; s < STATEMENTS; s++) {
            statements[s] = new Statement();
        }
        transposed = new boolean[ARRAYS];
        points = new Points();
        cells = new Cells();
        needs = new Needs();
        schedule = new Schedule();
        visits = new Visits();
        finder = new Finder();
        firstMemory = new Memory();
        visitedMemory = new Memory();
        traffic = new Traffic();
        folding = new Folding();
        structure = STALE;
    }

    // ---- expressions and statements

    public int type(int number) throws IllegalArgumentException, IllegalStateException {
        if (number < -20 || number > 20) {
            throw new IllegalArgumentException("the number is out of range");
        }
        if (typedCount >= NUMBERS) {
            throw new IllegalStateException("all numbers are typed");
        }
        typed[typedCount] = number;
        typedCount++;
        return typedCount;
    }

    public int clearRow() {
        int before = typedCount;
        emptyExpression();
        return before;
    }

    public int parameter(int value) throws IllegalArgumentException {
        if (value < 0 || value > 30) {
            throw new IllegalArgumentException("the value is out of range");
        }
        int before = parameterNow;
        parameterNow = value;
        forgetStructure();
        return before;
    }

    public int statement(int depth) throws IllegalArgumentException, IllegalStateException {
        if (depth < 1 || depth > ITERATORS) {
            throw new IllegalArgumentException("the depth is out of range");
        }
        if (statementCount >= STATEMENTS) {
            throw new IllegalStateException("there are 5 statements");
        }
        int number = statementCount;
        statements[number].depth = depth;
        statements[number].places[0] = number;
        statementCount++;
        schedule.beginAnew(statements, statementCount);
        forgetStructure();
        return number;
    }

    public int bound(int statement, int iterator, boolean isLower)
            throws IndexOutOfBoundsException, IllegalArgumentException, UnsupportedOperationException, IllegalStateException {
        if (!isStatement(statement) || iterator < 0 || iterator >= statements[statement].depth) {
            throw new IndexOutOfBoundsException("no such statement or iterator");
        }
        if (!isTypedOf(iterator)) {
            throw new IllegalArgumentException("an iterator is not ahead");
        }
        if (typedCount == 0) {
            throw new UnsupportedOperationException("nothing was typed");
        }
        int side = 2 * iterator + (isLower ? 0 : 1);
        Statement s = statements[statement];
        if (s.boundCounts[side] >= 2) {
            throw new IllegalStateException("there are 2 such bounds");
        }
        moveExpression(s.bounds[2 * side + s.boundCounts[side]]);
        s.boundCounts[side]++;
        s.periodKnown = 0;
        forgetStructure();
        return s.boundCounts[side];
    }

    public int guard(int statement, int modulus)
            throws IndexOutOfBoundsException, IllegalArgumentException, UnsupportedOperationException, IllegalStateException {
        if (!isStatement(statement)) {
            throw new IndexOutOfBoundsException("no such statement");
        }
        Statement s = statements[statement];
        if (!isTypedOf(s.depth) || modulus < 0 || modulus == 1 || modulus > 9) {
            throw new IllegalArgumentException("an iterator that is not there, or the modulus is out of range");
        }
        if (typedCount == 0) {
            throw new UnsupportedOperationException("nothing was typed");
        }
        if (s.guardCount >= 2) {
            throw new IllegalStateException("there are 2 guards");
        }
        moveExpression(s.guards[s.guardCount]);
        s.moduli[s.guardCount] = modulus;
        s.guardCount++;
        s.periodKnown = 0;
        forgetStructure();
        return s.guardCount;
    }

    public int place(int statement, int which, int place) throws IndexOutOfBoundsException, IllegalArgumentException {
        if (!isStatement(statement)) {
            throw new IndexOutOfBoundsException("no such statement");
        }
        if (which < 0 || which >= ITERATORS || place < 0 || place > 9) {
            throw new IllegalArgumentException("a number is out of range");
        }
        int[] places = statements[statement].places;
        int before = places[which];
        places[which] = place;
        forgetStructure();
        return before;
    }

    public int access(int statement, int array, boolean isWrite, boolean isSecond)
            throws IndexOutOfBoundsException, IllegalArgumentException, UnsupportedOperationException, IllegalStateException {
        if (!isStatement(statement)) {
            throw new IndexOutOfBoundsException("no such statement");
        }
        Statement s = statements[statement];
        if (!isSecond && !isArray(array) || !isTypedOf(s.depth)) {
            throw new IllegalArgumentException("no such array, or an iterator that is not there");
        }
        if (typedCount == 0 || isSecond && s.lastTold == NONE) {
            throw new UnsupportedOperationException("nothing was typed, or no access was told");
        }
        if (!isSecond && !isWrite && s.readCount >= READS) {
            throw new IllegalStateException("there are 3 reads");
        }
        if (isSecond) {
            moveExpression(s.seconds[s.lastTold]);
        } else {
            moveExpression(s.firsts[s.addAccess(array, isWrite)]);
        }
        forgetStructure();
        return s.readCount + (s.isWriting ? 1 : 0);
    }

    public boolean unknown(int statement, int access, boolean is) throws IndexOutOfBoundsException {
        if (!isStatement(statement) || !statements[statement].hasAccess(access)) {
            throw new IndexOutOfBoundsException("no such statement or access");
        }
        boolean[] unknowns = statements[statement].unknowns;
        boolean before = unknowns[access];
        unknowns[access] = is;
        forgetStructure();
        return before;
    }

    public boolean reduction(int statement, boolean is) throws IndexOutOfBoundsException {
        if (!isStatement(statement)) {
            throw new IndexOutOfBoundsException("no such statement");
        }
        boolean before = statements[statement].isToldReduction;
        statements[statement].isToldReduction = is;
        forgetStructure();
        return before;
    }

    // ---- points

    public int count(int statement) throws IndexOutOfBoundsException, IllegalStateException {
        if (!isStatement(statement)) {
            throw new IndexOutOfBoundsException("no such statement");
        }
        if (isOverfull()) {
            throw new IllegalStateException("there are too many points");
        }
        return points.sizeOf(statement);
    }

    public int point(int statement, int index, int iterator)
            throws IndexOutOfBoundsException, IllegalStateException, NoSuchElementException {
        if (!isStatement(statement) || iterator < 0 || iterator >= statements[statement].depth) {
            throw new IndexOutOfBoundsException("no such statement or iterator");
        }
        if (isOverfull()) {
            throw new IllegalStateException("there are too many points");
        }
        if (index < 0 || index >= points.sizeOf(statement)) {
            throw new NoSuchElementException("no such point");
        }
        return points.numbers[iterator][points.placeOf[points.starts[statement] + index]];
    }

    public int period(int statement) throws IndexOutOfBoundsException, NoSuchElementException {
        if (!isStatement(statement)) {
            throw new IndexOutOfBoundsException("no such statement");
        }
        Statement s = statements[statement];
        if (s.periodKnown == 0) {
            s.periodKnown = points.walker.leastPeriod(s);
        }
        if (s.periodKnown == NONE) {
            throw new NoSuchElementException("no period");
        }
        return s.periodKnown;
    }

    public int first(int iterator) throws IllegalArgumentException, IllegalStateException, NoSuchElementException {
        if (iterator < 0 || iterator > ITERATORS) {
            throw new IllegalArgumentException("the number is out of range");
        }
        if (isOverfull()) {
            throw new IllegalStateException("there are too many points");
        }
        if (points.size == 0) {
            throw new NoSuchElementException("no points");
        }
        return points.numberAt(0, iterator);
    }

    // ---- needs and schedules

    public int needs(char kind) throws IllegalArgumentException, IllegalStateException {
        int number = kindOf(kind);
        if (number == NONE) {
            throw new IllegalArgumentException("no such kind");
        }
        if (isOverfull()) {
            throw new IllegalStateException("there are too many points");
        }
        return needs.kindCounts[number];
    }

    public int need(int index, char what) throws IllegalArgumentException, IllegalStateException, NoSuchElementException {
        if (what != 's' && what != 't' && what != 'k' && what != 'i' && what != 'j' && what != 'l') {
            throw new IllegalArgumentException("no such thing");
        }
        if (isOverfull()) {
            throw new IllegalStateException("there are too many points");
        }
        if (index < 0 || index >= needs.size) {
            throw new NoSuchElementException("no such need");
        }
        return thingOfNeed(index, what);
    }

    public int script(char step, int a, int b, int c)
            throws IllegalArgumentException, UnsupportedOperationException, IllegalStateException {
        if (!isStep(step, a, b, c)) {
            throw new IllegalArgumentException("no such step, row or statement, or a number is out of range");
        }
        if (statementCount == 0) {
            return ITERATORS;
        }
        if (!schedule.isStepSupported(step, a, b, c)) {
            throw new UnsupportedOperationException("a divided row, the only row, or a number beyond 999");
        }
        if ((step == 't' || step == 'n') && schedule.rowCount >= ROWS) {
            throw new IllegalStateException("there are 4 rows");
        }
        takeStep(step, a, b, c);
        forgetOrder();
        return schedule.rowCount;
    }

    public int reset() {
        int before = rowsNow();
        schedule.beginAnew(statements, statementCount);
        forgetOrder();
        return before;
    }

    public int rows() {
        return rowsNow();
    }

    public int row(int statement, int row, int number) throws IndexOutOfBoundsException, IllegalArgumentException {
        if (!isStatement(statement)) {
            throw new IndexOutOfBoundsException("no such statement");
        }
        if (!isRow(row) || number < 0 || number > SIZE) {
            throw new IllegalArgumentException("no such row or number");
        }
        return schedule.expression(row, statement)[number];
    }

    public boolean isLegal() throws IllegalStateException {
        if (isOverfull()) {
            throw new IllegalStateException("there are too many points");
        }
        visitAll();
        return visits.firstBroken == NONE;
    }

    public int broken() throws IllegalStateException, NoSuchElementException {
        if (isOverfull()) {
            throw new IllegalStateException("there are too many points");
        }
        visitAll();
        if (visits.firstBroken == NONE) {
            throw new NoSuchElementException("no need is broken");
        }
        return visits.firstBroken;
    }

    public int carried(int row) throws IllegalArgumentException, IllegalStateException {
        if (!isRow(row)) {
            throw new IllegalArgumentException("no such row");
        }
        if (isOverfull()) {
            throw new IllegalStateException("there are too many points");
        }
        visitAll();
        return visits.carriedCounts[row];
    }

    public boolean isParallel(int row) throws IllegalArgumentException, IllegalStateException {
        if (!isRow(row)) {
            throw new IllegalArgumentException("no such row");
        }
        if (isOverfull()) {
            throw new IllegalStateException("there are too many points");
        }
        visitAll();
        return visits.carriedCounts[row] == 0;
    }

    public int band(int row) throws IllegalArgumentException, IllegalStateException {
        if (!isRow(row)) {
            throw new IllegalArgumentException("no such row");
        }
        if (isOverfull()) {
            throw new IllegalStateException("there are too many points");
        }
        visitAll();
        return visits.bandFrom(row, rowsNow(), needs);
    }

    public int find() throws IllegalStateException, NoSuchElementException {
        if (isOverfull()) {
            throw new IllegalStateException("there are too many points");
        }
        int found = finder.findRows(needs, points, greatestDepth());
        if (found == 0) {
            throw new NoSuchElementException("no row can be found");
        }
        schedule.take(finder.found, found, statements, statementCount);
        forgetOrder();
        return found;
    }

    // ---- orders, memories, machines

    public int time(int statement, int index)
            throws IndexOutOfBoundsException, IllegalStateException, NoSuchElementException {
        if (!isStatement(statement)) {
            throw new IndexOutOfBoundsException("no such statement");
        }
        if (isOverfull()) {
            throw new IllegalStateException("there are too many points");
        }
        if (index < 0 || index >= points.sizeOf(statement)) {
            throw new NoSuchElementException("no such point");
        }
        visitAll();
        return visits.times[points.placeOf[points.starts[statement] + index]];
    }

    public int visited(int time, int iterator)
            throws IllegalArgumentException, IllegalStateException, NoSuchElementException {
        if (iterator < 0 || iterator > ITERATORS) {
            throw new IllegalArgumentException("the iterator is out of range");
        }
        if (isOverfull()) {
            throw new IllegalStateException("there are too many points");
        }
        if (time < 0 || time >= points.size) {
            throw new NoSuchElementException("no such point");
        }
        visitAll();
        return points.numberAt(visits.order[time], iterator);
    }

    public int pieces() throws IllegalStateException {
        if (isOverfull()) {
            throw new IllegalStateException("there are too many points");
        }
        visitAll();
        return visits.pieceCount;
    }

    public int piece(int index, char what) throws IllegalArgumentException, IllegalStateException, NoSuchElementException {
        int number = pieceThing(what);
        if (number == NONE) {
            throw new IllegalArgumentException("no such thing");
        }
        if (isOverfull()) {
            throw new IllegalStateException("there are too many points");
        }
        visitAll();
        if (index < 0 || index >= visits.pieceCount) {
            throw new NoSuchElementException("no such piece");
        }
        return visits.pieceThings[number][index];
    }

    public int footprint(int row, int number) throws IllegalArgumentException, IllegalStateException {
        if (!isRow(row)) {
            throw new IllegalArgumentException("no such row");
        }
        if (isOverfull()) {
            throw new IllegalStateException("there are too many points");
        }
        visitAll();
        return traffic.cellsOf(visits.numbers[row], number, points.size, cells);
    }

    public int reuse(int distance) throws IllegalArgumentException, IllegalStateException {
        if (distance < 0 || distance > MOST_DISTANCE) {
            throw new IllegalArgumentException("the distance is out of range");
        }
        if (isOverfull()) {
            throw new IllegalStateException("there are too many points");
        }
        measureTraffic();
        return traffic.touchesWithin(distance);
    }

    public boolean layout(int array, boolean isTransposed) throws IndexOutOfBoundsException {
        if (!isArray(array)) {
            throw new IndexOutOfBoundsException("no such array");
        }
        boolean before = transposed[array];
        transposed[array] = isTransposed;
        return before;
    }

    public int misses(int wide, int lines) throws IllegalArgumentException, IllegalStateException {
        if (wide < 1 || wide > 16 || lines < 1 || lines > MOST_LINES) {
            throw new IllegalArgumentException("a number is out of range");
        }
        if (isOverfull()) {
            throw new IllegalStateException("there are too many points");
        }
        visitAll();
        traffic.layLines(cells, transposed, wide);
        return traffic.missesOf(visits.order, points.size, cells, lines);
    }

    public int storage(int array) throws IndexOutOfBoundsException, IllegalStateException, NoSuchElementException {
        if (!isArray(array)) {
            throw new IndexOutOfBoundsException("no such array");
        }
        if (isOverfull()) {
            throw new IllegalStateException("there are too many points");
        }
        visitAll();
        if (visits.firstBroken != NONE) {
            throw new NoSuchElementException("the schedule is not legal");
        }
        folding.follow(array, visits.order, points.size, cells);
        int least = folding.leastModulus(cells);
        if (least == NONE) {
            throw new NoSuchElementException("no modulus");
        }
        return least;
    }

    public int messages(int row, int processors) throws IllegalArgumentException, IllegalStateException {
        if (!isRow(row) || processors < 1 || processors > MOST_PROCESSORS) {
            throw new IllegalArgumentException("no such row, or the number is out of range");
        }
        if (isOverfull()) {
            throw new IllegalStateException("there are too many points");
        }
        visitAll();
        return visits.messagesOf(row, processors, points.size, needs);
    }

    public int cell(int array, int first, int second, boolean isVisited)
            throws IndexOutOfBoundsException, IllegalArgumentException, IllegalStateException {
        if (!isArray(array)) {
            throw new IndexOutOfBoundsException("no such array");
        }
        if (!isCellNumber(first) || !isCellNumber(second)) {
            throw new IllegalArgumentException("a number is out of range");
        }
        if (isOverfull()) {
            throw new IllegalStateException("there are too many points");
        }
        visitAll();
        runMemories();
        int number = cells.lookUp(array, first, second);
        if (number == NONE) {
            return initialValue(array, first, second);
        }
        return isVisited ? visitedMemory.held[number] : firstMemory.held[number];
    }

    public boolean isSame() throws IllegalStateException {
        if (isOverfull()) {
            throw new IllegalStateException("there are too many points");
        }
        visitAll();
        return isMemoryAlike();
    }

    // ---- figures

    public long checksum() throws IllegalStateException {
        if (isOverfull()) {
            throw new IllegalStateException("there are too many points");
        }
        visitAll();
        runMemories();
        return visitedMemory.sum;
    }

    public float parallelShare() throws IllegalStateException, ArithmeticException {
        if (isOverfull()) {
            throw new IllegalStateException("there are too many points");
        }
        int all = rowsNow();
        if (points.size == 0 || all == 0) {
            throw new ArithmeticException("there are no points");
        }
        visitAll();
        int parallel = 0;
        for (int r = 0; r < all; r++) {
            if (visits.carriedCounts[r] == 0) {
                parallel++;
            }
        }
        return (float) parallel / (float) all;
    }

    public double meanReuse() throws IllegalStateException, ArithmeticException {
        if (isOverfull()) {
            throw new IllegalStateException("there are too many points");
        }
        measureTraffic();
        if (traffic.distanceCount == 0) {
            throw new ArithmeticException("no touch has a distance");
        }
        return (double) traffic.distanceSum / (double) traffic.distanceCount;
    }

    public boolean isConsistent() throws IllegalStateException {
        if (isOverfull()) {
            throw new IllegalStateException("there are too many points");
        }
        visitAll();
        if (!visits.areTimesOfAll(points.size) || !needs.areForward()) {
            return false;
        }
        return visits.firstBroken != NONE || hasReduction() || isMemoryAlike();
    }

    // ---- what the calls share

    private static int evaluate(int[] expression, int i, int j, int k, int n) {
        return expression[0] * i + expression[1] * j + expression[2] * k + expression[3] * n + expression[4];
    }

    private static int initialValue(int array, int x, int y) {
        return Math.floorMod(100 * x + y + 7 * array, 1009);
    }

    private static boolean isCellNumber(int number) {
        return number >= -MOST_CELL_NUMBER && number <= MOST_CELL_NUMBER;
    }

    private static boolean isArray(int array) {
        return array >= 0 && array < ARRAYS;
    }

    private boolean isStatement(int statement) {
        return statement >= 0 && statement < statementCount;
    }

    private boolean isRow(int row) {
        return row >= 0 && row < rowsNow();
    }

    private int rowsNow() {
        return statementCount == 0 ? ITERATORS : schedule.rowCount;
    }

    /** Whether the expression has none but the first iterators. */
    private boolean isTypedOf(int depth) {
        for (int iterator = 0; iterator < ITERATORS; iterator++) {
            if (iterator >= depth && typed[iterator] != 0) {
                return false;
            }
        }
        return true;
    }

    private void emptyExpression() {
        Arrays.fill(typed, 0);
        typedCount = 0;
    }

    private void moveExpression(int[] into) {
        System.arraycopy(typed, 0, into, 0, NUMBERS);
        emptyExpression();
    }

    private void forgetStructure() {
        structure = STALE;
        firstMemory.isFresh = false;
        forgetOrder();
    }

    private void forgetOrder() {
        visits.isFresh = false;
        visitedMemory.isFresh = false;
        traffic.isFresh = false;
    }

    /** Finds points, cells and needs, if they are not found yet; true if there are too many. */
    private boolean isOverfull() {
        if (structure == STALE) {
            structure = OVERFULL;
            if (points.collect(statements, statementCount, parameterNow)) {
                cells.collect(statements, points, parameterNow);
                if (needs.collect(statements, statementCount, points, cells)) {
                    structure = FRESH;
                }
            }
        }
        return structure == OVERFULL;
    }

    private void visitAll() {
        if (!visits.isFresh) {
            visits.arrange(schedule, rowsNow(), points, parameterNow);
            visits.judge(needs, rowsNow());
            visits.cut(points);
            visits.isFresh = true;
        }
    }

    /** Behind visitAll alone. */
    private void runMemories() {
        if (!firstMemory.isFresh) {
            firstMemory.run(statements, points, cells, points.inOrder);
        }
        if (!visitedMemory.isFresh) {
            visitedMemory.run(statements, points, cells, visits.order);
        }
    }

    private void measureTraffic() {
        visitAll();
        if (!traffic.isFresh) {
            traffic.measure(visits.order, points.size, cells);
        }
    }

    private boolean isMemoryAlike() {
        runMemories();
        for (int c = 0; c < cells.size; c++) {
            if (firstMemory.held[c] != visitedMemory.held[c]) {
                return false;
            }
        }
        return true;
    }

    private boolean hasReduction() {
        for (int s = 0; s < statementCount; s++) {
            if (statements[s].isReduction()) {
                return true;
            }
        }
        return false;
    }

    private int greatestDepth() {
        int greatest = 0;
        for (int s = 0; s < statementCount; s++) {
            greatest = Math.max(greatest, statements[s].depth);
        }
        return greatest;
    }

    private static int kindOf(char letter) {
        switch (letter) {
            case 'f':
                return FLOW;
            case 'a':
                return ANTI;
            case 'o':
                return OUTPUT;
            default:
                return NONE;
        }
    }

    private static int pieceThing(char letter) {
        switch (letter) {
            case 'l':
                return Visits.LEAST;
            case 'g':
                return Visits.GREATEST;
            case 's':
                return Visits.BITS;
            case 'n':
                return Visits.POINTS;
            default:
                return NONE;
        }
    }

    private int thingOfNeed(int index, char what) {
        int earlier = needs.earlierOf(index);
        int later = needs.laterOf(index);
        switch (what) {
            case 's':
                return points.statementOf[earlier];
            case 't':
                return points.statementOf[later];
            case 'i':
                return difference(earlier, later, 0);
            case 'j':
                return difference(earlier, later, 1);
            case 'l':
                return difference(earlier, later, 2);
            default:
                return needs.letterOf(index);
        }
    }

    private int difference(int earlier, int later, int iterator) {
        if (iterator >= statements[points.statementOf[earlier]].depth
                || iterator >= statements[points.statementOf[later]].depth) {
            return 0;
        }
        return points.numbers[iterator][later] - points.numbers[iterator][earlier];
    }

    /** Whether there is such a step, with rows, statements and numbers in their ranges. */
    private boolean isStep(char step, int a, int b, int c) {
        switch (step) {
            case 'x':
                return isRow(a) && isRow(b) && a != b;
            case 's':
                return isRow(a) && isRow(b) && a != b && c >= -5 && c <= 5 && c != 0;
            case 'r':
            case 'd':
                return isRow(a);
            case 't':
                return isRow(a) && b >= 2 && b <= 20;
            case 'c':
                return isStatement(a) && isRow(b) && c >= -20 && c <= 20;
            default:
                return step == 'n';
        }
    }

    private void takeStep(char step, int a, int b, int c) {
        switch (step) {
            case 'x':
                schedule.exchange(a, b);
                break;
            case 'r':
                schedule.turn(a);
                break;
            case 's':
                schedule.skew(a, b, c);
                break;
            case 't':
                schedule.divide(a, b);
                break;
            case 'c':
                schedule.expression(b, a)[NUMBERS - 1] += c;
                break;
            case 'd':
                schedule.takeAway(a);
                break;
            default:
                schedule.putAhead(statements, statementCount);
                break;
        }
    }

    /** A statement: its bounds, guards, places and accesses, as told. */
    private static final class Statement {
        private int depth;
        private final int[][] bounds = new int[12][NUMBERS];
        private final int[] boundCounts = new int[6];
        private final int[][] guards = new int[2][NUMBERS];
        private final int[] moduli = new int[2];
        private int guardCount;
        private final int[] places = new int[ITERATORS];
        private final int[][] firsts = new int[ACCESSES][NUMBERS];
        private final int[][] seconds = new int[ACCESSES][NUMBERS];
        private final int[] arrays = new int[ACCESSES];
        private final boolean[] unknowns = new boolean[ACCESSES];
        private int readCount;
        private boolean isWriting;
        private int lastTold = NONE;
        private boolean isToldReduction;
        private int periodKnown;

        private int low(int iterator, int i, int j, int n) {
            int side = 2 * iterator;
            if (boundCounts[side] == 0) {
                return 0;
            }
            int least = evaluate(bounds[2 * side], i, j, 0, n);
            if (boundCounts[side] > 1) {
                least = Math.max(least, evaluate(bounds[2 * side + 1], i, j, 0, n));
            }
            return least;
        }

        private int high(int iterator, int i, int j, int n) {
            int side = 2 * iterator + 1;
            if (boundCounts[side] == 0) {
                return n - 1;
            }
            int greatest = evaluate(bounds[2 * side], i, j, 0, n);
            if (boundCounts[side] > 1) {
                greatest = Math.min(greatest, evaluate(bounds[2 * side + 1], i, j, 0, n));
            }
            return greatest;
        }

        private boolean isHeld(int i, int j, int k, int n) {
            for (int g = 0; g < guardCount; g++) {
                int value = evaluate(guards[g], i, j, k, n);
                if (moduli[g] == 0 ? value < 0 : Math.floorMod(value, moduli[g]) != 0) {
                    return false;
                }
            }
            return true;
        }

        private boolean hasAccess(int access) {
            return access == WRITE ? isWriting : access >= 0 && access < readCount;
        }

        private int addAccess(int array, boolean isWrite) {
            int access = isWrite ? WRITE : readCount;
            if (isWrite) {
                isWriting = true;
            } else {
                readCount++;
            }
            arrays[access] = array;
            unknowns[access] = false;
            Arrays.fill(seconds[access], 0);
            lastTold = access;
            return access;
        }

        private boolean isReduction() {
            if (!isToldReduction || !isWriting || readCount == 0 || arrays[0] != arrays[WRITE]) {
                return false;
            }
            for (int e = 0; e < NUMBERS; e++) {
                if (firsts[0][e] != firsts[WRITE][e] || seconds[0][e] != seconds[WRITE][e]) {
                    return false;
                }
            }
            return true;
        }
    }

    /** Goes through the numbers of a statement's iterators, and keeps or only counts its points. */
    private static final class Walker {
        private static final int LEAST_PARAMETER = 6;
        private static final int GREATEST_PARAMETER = 25;

        private final int[][] found = new int[ITERATORS][MOST_POINTS];
        private final int[] counts = new int[GREATEST_PARAMETER + 1];
        private int foundCount;
        private int goneThrough;
        private boolean isKeeping;

        private void begin(boolean keeping) {
            foundCount = 0;
            goneThrough = 0;
            isKeeping = keeping;
        }

        /** False if there are too many. */
        private boolean goThrough(Statement s, int n) {
            int low = s.low(0, 0, 0, n);
            int high = s.high(0, 0, 0, n);
            if (!isSpent(low, high)) {
                return false;
            }
            for (int i = low; i <= high; i++) {
                if (s.depth == 1 ? !isKept(s, i, 0, 0, n) : !goInto(s, i, n)) {
                    return false;
                }
            }
            return true;
        }

        private boolean goInto(Statement s, int i, int n) {
            int low = s.low(1, i, 0, n);
            int high = s.high(1, i, 0, n);
            if (!isSpent(low, high)) {
                return false;
            }
            for (int j = low; j <= high; j++) {
                int lowest = s.depth == 2 ? 0 : s.low(2, i, j, n);
                int highest = s.depth == 2 ? 0 : s.high(2, i, j, n);
                if (s.depth > 2 && !isSpent(lowest, highest)) {
                    return false;
                }
                for (int k = lowest; k <= highest; k++) {
                    if (!isKept(s, i, j, k, n)) {
                        return false;
                    }
                }
            }
            return true;
        }

        private boolean isSpent(int low, int high) {
            if (high >= low) {
                goneThrough += high - low + 1;
            }
            return goneThrough <= MOST_GONE_THROUGH;
        }

        private boolean isKept(Statement s, int i, int j, int k, int n) {
            if (!s.isHeld(i, j, k, n)) {
                return true;
            }
            if (isKeeping) {
                if (foundCount >= MOST_POINTS) {
                    return false;
                }
                found[0][foundCount] = i;
                found[1][foundCount] = j;
                found[2][foundCount] = k;
            }
            foundCount++;
            return true;
        }

        private int leastPeriod(Statement s) {
            for (int n = LEAST_PARAMETER; n <= GREATEST_PARAMETER; n++) {
                begin(false);
                if (!goThrough(s, n)) {
                    return NONE;
                }
                counts[n] = foundCount;
            }
            for (int apart = 1; apart <= 4; apart++) {
                if (isPeriod(apart)) {
                    return apart;
                }
            }
            return NONE;
        }

        private boolean isPeriod(int apart) {
            for (int n = LEAST_PARAMETER; n + 4 * apart <= GREATEST_PARAMETER; n++) {
                int fourth = counts[n] - 4 * counts[n + apart] + 6 * counts[n + 2 * apart]
                        - 4 * counts[n + 3 * apart] + counts[n + 4 * apart];
                if (fourth != 0) {
                    return false;
                }
            }
            return true;
        }
    }

    /** All points, by their places in the first order. */
    private static final class Points {
        private final Walker walker = new Walker();
        private final int[][] numbers = new int[ITERATORS][MOST_POINTS];
        private final int[] statementOf = new int[MOST_POINTS];
        private final int[] placeOf = new int[MOST_POINTS];
        private final int[] inOrder = new int[MOST_POINTS];
        private final int[] starts = new int[STATEMENTS + 1];
        private final int[] heads = new int[STATEMENTS];
        private int size;

        /** False if there are too many. */
        private boolean collect(Statement[] statements, int statementCount, int n) {
            size = 0;
            walker.begin(true);
            for (int s = 0; s < STATEMENTS; s++) {
                starts[s] = walker.foundCount;
                heads[s] = walker.foundCount;
                if (s < statementCount && !walker.goThrough(statements[s], n)) {
                    return false;
                }
            }
            starts[STATEMENTS] = walker.foundCount;
            for (int place = 0; place < walker.foundCount; place++) {
                take(nextStatement(statements, statementCount), place);
            }
            size = walker.foundCount;
            return true;
        }

        private int sizeOf(int statement) {
            return starts[statement + 1] - starts[statement];
        }

        private int numberAt(int place, int iterator) {
            return iterator < ITERATORS ? numbers[iterator][place] : statementOf[place];
        }

        private int nextStatement(Statement[] statements, int statementCount) {
            int next = 0;
            boolean isFound = false;
            for (int s = 0; s < statementCount; s++) {
                if (heads[s] < starts[s + 1] && (!isFound || isAhead(statements[s], heads[s], statements[next], heads[next]))) {
                    next = s;
                    isFound = true;
                }
            }
            return next;
        }

        private boolean isAhead(Statement a, int x, Statement b, int y) {
            for (int level = 0; level < ITERATORS; level++) {
                if (a.places[level] != b.places[level]) {
                    return a.places[level] < b.places[level];
                }
                int mine = level < a.depth ? walker.found[level][x] : ABSENT;
                int other = level < b.depth ? walker.found[level][y] : ABSENT;
                if (mine != other) {
                    return mine < other;
                }
            }
            return false;
        }

        private void take(int statement, int place) {
            int head = heads[statement];
            for (int iterator = 0; iterator < ITERATORS; iterator++) {
                numbers[iterator][place] = walker.found[iterator][head];
            }
            statementOf[place] = statement;
            placeOf[head] = place;
            inOrder[place] = place;
            heads[statement]++;
        }
    }

    /** The cells that points touch, each once, and which access of which point touches which. */
    private static final class Cells {
        private static final int SLOTS = 16384;
        private static final int NUMBER_BITS = 13;
        private static final int NUMBER_MASK = 8191;
        private static final int MOST_GENERATIONS = 200000;

        private final int[] slots = new int[SLOTS];
        private final int[] arrayOf = new int[MOST_CELLS];
        private final int[] firstOf = new int[MOST_CELLS];
        private final int[] secondOf = new int[MOST_CELLS];
        private final int[] touched = new int[MOST_POINTS * ACCESSES];
        private int generation;
        private int size;

        private void collect(Statement[] statements, Points points, int n) {
            begin();
            for (int p = 0; p < points.size; p++) {
                Statement s = statements[points.statementOf[p]];
                int i = points.numbers[0][p];
                int j = points.numbers[1][p];
                int k = points.numbers[2][p];
                for (int m = 0; m < ACCESSES; m++) {
                    touched[ACCESSES * p + m] = s.hasAccess(m)
                            ? numberOf(s.arrays[m], evaluate(s.firsts[m], i, j, k, n), evaluate(s.seconds[m], i, j, k, n))
                            : NONE;
                }
            }
        }

        /** A slot of an older generation counts as empty, so that none has to be emptied. */
        private void begin() {
            if (generation >= MOST_GENERATIONS) {
                Arrays.fill(slots, 0);
                generation = 0;
            }
            generation++;
            size = 0;
        }

        private int numberOf(int array, int x, int y) {
            int slot = search(array, x, y);
            if (isFilled(slot)) {
                return slots[slot] & NUMBER_MASK;
            }
            int number = size;
            arrayOf[number] = array;
            firstOf[number] = x;
            secondOf[number] = y;
            slots[slot] = (generation << NUMBER_BITS) | number;
            size++;
            return number;
        }

        private int lookUp(int array, int x, int y) {
            int slot = search(array, x, y);
            return isFilled(slot) ? slots[slot] & NUMBER_MASK : NONE;
        }

        private boolean isFilled(int slot) {
            return slots[slot] >>> NUMBER_BITS == generation;
        }

        /** The slot where the cell is, or where it would be put: there are always empty ones. */
        private int search(int array, int x, int y) {
            int mixed = (x * 31 + y) * 4 + array;
            int start = mixed * 0x9E3779B1 >>> 18;
            for (int tried = 0; tried < SLOTS; tried++) {
                int slot = (start + tried) & (SLOTS - 1);
                if (!isFilled(slot)) {
                    return slot;
                }
                int number = slots[slot] & NUMBER_MASK;
                if (firstOf[number] == x && secondOf[number] == y && arrayOf[number] == array) {
                    return slot;
                }
            }
            return start;
        }
    }

    /** Which point needs which: f, a and o, in order. */
    private static final class Needs {
        private static final int PLACE_BITS = 11;
        private static final int PLACE_MASK = 2047;
        private static final int MOST_PAIRS = 14000;

        private final int[] packed = new int[MOST_NEEDS];
        private final int[] starts = new int[MOST_POINTS + 1];
        private final int[] kindCounts = new int[3];
        private int size;
        private final int[] pairs = new int[MOST_PAIRS];
        private final int[] pairNext = new int[MOST_PAIRS];
        private final int[] pairHeads = new int[MOST_POINTS];
        private final int[] pairTails = new int[MOST_POINTS];
        private int pairCount;
        private final int[] lastWriter = new int[MOST_CELLS];
        private final int[] readerHeads = new int[MOST_CELLS];
        private final int[] readerNext = new int[MOST_POINTS * READS];
        private final int[] unknownKinds = new int[STATEMENTS * STATEMENTS];
        private final boolean[] isUnknownFrom = new boolean[STATEMENTS];

        /** False if there are too many. */
        private boolean collect(Statement[] statements, int statementCount, Points points, Cells cells) {
            size = 0;
            Arrays.fill(kindCounts, 0);
            trace(statements, points, cells);
            for (int s = 0; s < statementCount; s++) {
                isUnknownFrom[s] = false;
                for (int t = 0; t < statementCount; t++) {
                    int kinds = unknownKindsOf(statements[s], statements[t]);
                    unknownKinds[STATEMENTS * s + t] = kinds;
                    isUnknownFrom[s] = isUnknownFrom[s] || kinds != 0;
                }
            }
            for (int p = 0; p < points.size; p++) {
                starts[p] = size;
                boolean isListed = isUnknownFrom[points.statementOf[p]] ? listWithUnknown(p, points) : listKnown(p);
                if (!isListed) {
                    return false;
                }
            }
            starts[points.size] = size;
            return true;
        }

        private int earlierOf(int index) {
            return packed[index] >>> PLACE_BITS + 2;
        }

        private int laterOf(int index) {
            return packed[index] >>> 2 & PLACE_MASK;
        }

        private boolean isFlow(int index) {
            return (packed[index] & 3) == FLOW;
        }

        private char letterOf(int index) {
            int kind = packed[index] & 3;
            return kind == FLOW ? 'f' : kind == ANTI ? 'a' : 'o';
        }

        private boolean areForward() {
            for (int index = 0; index < size; index++) {
                if (earlierOf(index) >= laterOf(index)) {
                    return false;
                }
            }
            return true;
        }

        /** Follows the known accesses in the first order, by last writers and by readers since. */
        private void trace(Statement[] statements, Points points, Cells cells) {
            pairCount = 0;
            Arrays.fill(lastWriter, 0, cells.size, NONE);
            Arrays.fill(readerHeads, 0, cells.size, NONE);
            for (int p = 0; p < points.size; p++) {
                pairHeads[p] = NONE;
                pairTails[p] = NONE;
                Statement s = statements[points.statementOf[p]];
                boolean isReduction = s.isReduction();
                for (int m = 0; m < s.readCount; m++) {
                    if (!s.unknowns[m]) {
                        noteRead(p, m, cells.touched[ACCESSES * p + m], isReduction, points.statementOf);
                    }
                }
                if (s.isWriting && !s.unknowns[WRITE]) {
                    noteWrite(p, cells.touched[ACCESSES * p + WRITE], isReduction, points.statementOf);
                }
            }
        }

        private void noteRead(int p, int m, int cell, boolean isReduction, int[] statementOf) {
            int writer = lastWriter[cell];
            boolean isFolded = isReduction && m == 0 && writer != NONE && statementOf[writer] == statementOf[p];
            if (writer != NONE && !isFolded) {
                addPair(writer, p, FLOW);
            }
            int node = READS * p + m;
            readerNext[node] = readerHeads[cell];
            readerHeads[cell] = node;
        }

        private void noteWrite(int p, int cell, boolean isReduction, int[] statementOf) {
            int writer = lastWriter[cell];
            if (writer != NONE && !(isReduction && statementOf[writer] == statementOf[p])) {
                addPair(writer, p, OUTPUT);
            }
            int own = NONE;
            int node = readerHeads[cell];
            for (int passed = 0; passed < MOST_POINTS * READS && node != NONE; passed++) {
                int reader = node / READS;
                if (reader == p) {
                    own = node;
                } else if (!(isReduction && node % READS == 0 && statementOf[reader] == statementOf[p])) {
                    addPair(reader, p, ANTI);
                }
                node = readerNext[node];
            }
            // What this point itself read goes on: the next writer needs it, too.
            if (own == NONE) {
                readerHeads[cell] = NONE;
            } else {
                readerNext[own] = NONE;
            }
            lastWriter[cell] = p;
        }

        /** The later point rises from call to call, so that a pair that is there is the last one. */
        private void addPair(int earlier, int later, int kind) {
            int tail = pairTails[earlier];
            if (tail != NONE && pairs[tail] >> 3 == later) {
                pairs[tail] |= 1 << kind;
                return;
            }
            if (pairCount >= MOST_PAIRS) {
                return;
            }
            pairs[pairCount] = later << 3 | 1 << kind;
            pairNext[pairCount] = NONE;
            if (tail == NONE) {
                pairHeads[earlier] = pairCount;
            } else {
                pairNext[tail] = pairCount;
            }
            pairTails[earlier] = pairCount;
            pairCount++;
        }

        private static int unknownKindsOf(Statement earlier, Statement later) {
            int kinds = 0;
            for (int x = 0; x < ACCESSES; x++) {
                for (int y = 0; y < ACCESSES; y++) {
                    boolean isOne = earlier.hasAccess(x) && later.hasAccess(y) && earlier.arrays[x] == later.arrays[y]
                            && (earlier.unknowns[x] || later.unknowns[y]);
                    if (isOne && x == WRITE) {
                        kinds |= 1 << (y == WRITE ? OUTPUT : FLOW);
                    } else if (isOne && y == WRITE) {
                        kinds |= 1 << ANTI;
                    }
                }
            }
            return kinds;
        }

        private boolean listKnown(int p) {
            int pair = pairHeads[p];
            for (int passed = 0; passed < MOST_PAIRS && pair != NONE; passed++) {
                if (!isAdded(p, pairs[pair] >> 3, pairs[pair] & 7)) {
                    return false;
                }
                pair = pairNext[pair];
            }
            return true;
        }

        private boolean listWithUnknown(int p, Points points) {
            int from = STATEMENTS * points.statementOf[p];
            int pair = pairHeads[p];
            for (int q = p + 1; q < points.size; q++) {
                int kinds = unknownKinds[from + points.statementOf[q]];
                if (pair != NONE && pairs[pair] >> 3 == q) {
                    kinds |= pairs[pair] & 7;
                    pair = pairNext[pair];
                }
                if (!isAdded(p, q, kinds)) {
                    return false;
                }
            }
            return true;
        }

        private boolean isAdded(int earlier, int later, int kinds) {
            for (int kind = FLOW; kind <= OUTPUT; kind++) {
                if ((kinds >> kind & 1) == 1) {
                    if (size >= MOST_NEEDS) {
                        return false;
                    }
                    packed[size] = earlier << PLACE_BITS + 2 | later << 2 | kind;
                    kindCounts[kind]++;
                    size++;
                }
            }
            return true;
        }
    }

    /** The rows of all statements, each an expression and a size. */
    private static final class Schedule {
        private final int[][] numbers = new int[ROWS * STATEMENTS][SIZE + 1];
        private int rowCount = ITERATORS;

        private int[] expression(int row, int statement) {
            return numbers[STATEMENTS * row + statement];
        }

        private void beginAnew(Statement[] statements, int statementCount) {
            rowCount = ITERATORS;
            for (int r = 0; r < ITERATORS; r++) {
                for (int s = 0; s < statementCount; s++) {
                    int[] e = expression(r, s);
                    Arrays.fill(e, 0);
                    e[r] = r < statements[s].depth ? 1 : 0;
                    e[SIZE] = 1;
                }
            }
        }

        private void take(int[][] found, int count, Statement[] statements, int statementCount) {
            rowCount = count;
            for (int r = 0; r < count; r++) {
                for (int s = 0; s < statementCount; s++) {
                    int[] e = expression(r, s);
                    Arrays.fill(e, 0);
                    System.arraycopy(found[r], 0, e, 0, statements[s].depth);
                    e[SIZE] = 1;
                }
            }
        }

        /** All statements share a row's size; one whose first statement's is 1 was not divided. */
        private boolean isDivided(int row) {
            return expression(row, 0)[SIZE] != 1;
        }

        private boolean isStepSupported(char step, int a, int b, int c) {
            switch (step) {
                case 'r':
                case 't':
                    return !isDivided(a);
                case 's':
                    return !isDivided(a) && !isDivided(b) && isSkewSmall(a, b, c);
                case 'd':
                    return rowCount > 1;
                case 'c':
                    return isSmall(expression(b, a)[NUMBERS - 1] + c);
                default:
                    return true;
            }
        }

        private static boolean isSmall(int number) {
            return number >= -MOST_ROW_NUMBER && number <= MOST_ROW_NUMBER;
        }

        private boolean isSkewSmall(int a, int b, int times) {
            for (int s = 0; s < STATEMENTS; s++) {
                for (int e = 0; e < NUMBERS; e++) {
                    if (!isSmall(expression(a, s)[e] + times * expression(b, s)[e])) {
                        return false;
                    }
                }
            }
            return true;
        }

        private void exchange(int a, int b) {
            for (int s = 0; s < STATEMENTS; s++) {
                int[] one = expression(a, s);
                int[] other = expression(b, s);
                for (int e = 0; e <= SIZE; e++) {
                    int kept = one[e];
                    one[e] = other[e];
                    other[e] = kept;
                }
            }
        }

        private void turn(int a) {
            for (int s = 0; s < STATEMENTS; s++) {
                int[] e = expression(a, s);
                for (int x = 0; x < NUMBERS; x++) {
                    e[x] = -e[x];
                }
            }
        }

        private void skew(int a, int b, int times) {
            for (int s = 0; s < STATEMENTS; s++) {
                int[] one = expression(a, s);
                int[] other = expression(b, s);
                for (int e = 0; e < NUMBERS; e++) {
                    one[e] += times * other[e];
                }
            }
        }

        private void copyRow(int from, int to) {
            for (int s = 0; s < STATEMENTS; s++) {
                System.arraycopy(expression(from, s), 0, expression(to, s), 0, SIZE + 1);
            }
        }

        /** The row and those behind it go one further; the row itself stays, too. */
        private void makeRoom(int row) {
            for (int r = rowCount; r > row; r--) {
                copyRow(r - 1, r);
            }
            rowCount++;
        }

        private void divide(int a, int size) {
            makeRoom(a);
            for (int s = 0; s < STATEMENTS; s++) {
                expression(a, s)[SIZE] = size;
            }
        }

        private void takeAway(int a) {
            for (int r = a; r < rowCount - 1; r++) {
                copyRow(r + 1, r);
            }
            rowCount--;
        }

        private void putAhead(Statement[] statements, int statementCount) {
            makeRoom(0);
            for (int s = 0; s < statementCount; s++) {
                int[] e = expression(0, s);
                Arrays.fill(e, 0);
                e[NUMBERS - 1] = statements[s].places[0];
                e[SIZE] = 1;
            }
        }
    }

    /** The order in which points are visited by a schedule, and what follows from the rows' numbers. */
    private static final class Visits {
        private static final int LEAST = 0;
        private static final int GREATEST = 1;
        private static final int BITS = 2;
        private static final int POINTS = 3;

        private final int[][] numbers = new int[ROWS][MOST_POINTS];
        private final int[] order = new int[MOST_POINTS];
        private final int[] times = new int[MOST_POINTS];
        private final int[] spare = new int[MOST_POINTS];
        private final int[] grouped = new int[MOST_POINTS];
        private final int[] carriedCounts = new int[ROWS];
        private int firstBroken = NONE;
        private final int[][] pieceThings = new int[4][MOST_POINTS];
        private int pieceCount;
        private final int[] sendMarks = new int[MOST_PROCESSORS * MOST_PROCESSORS];
        private int sendMark;
        private boolean isFresh;

        private void arrange(Schedule schedule, int rowCount, Points points, int n) {
            for (int r = 0; r < rowCount; r++) {
                for (int p = 0; p < points.size; p++) {
                    int[] e = schedule.expression(r, points.statementOf[p]);
                    int value = evaluate(e, points.numbers[0][p], points.numbers[1][p], points.numbers[2][p], n);
                    numbers[r][p] = e[SIZE] > 1 ? Math.floorDiv(value, e[SIZE]) : value;
                }
            }
            sort(order, points.size, 0, rowCount);
            for (int t = 0; t < points.size; t++) {
                times[order[t]] = t;
            }
        }

        /** Sorts all places by their numbers of some rows; what is equal there stays in the first order. */
        private void sort(int[] places, int size, int fromRow, int toRow) {
            for (int p = 0; p < size; p++) {
                places[p] = p;
            }
            for (int width = 1; width < size; width *= 2) {
                System.arraycopy(places, 0, spare, 0, size);
                for (int low = 0; low < size; low += 2 * width) {
                    mergeRuns(places, low, Math.min(low + width, size), Math.min(low + 2 * width, size), fromRow, toRow);
                }
            }
        }

        private void mergeRuns(int[] into, int low, int middle, int high, int fromRow, int toRow) {
            int left = low;
            int right = middle;
            for (int t = low; t < high; t++) {
                boolean isRight = left >= middle || right < high && isBefore(spare[right], spare[left], fromRow, toRow);
                if (isRight) {
                    into[t] = spare[right];
                    right++;
                } else {
                    into[t] = spare[left];
                    left++;
                }
            }
        }

        private boolean isBefore(int p, int q, int fromRow, int toRow) {
            for (int r = fromRow; r < toRow; r++) {
                if (numbers[r][p] != numbers[r][q]) {
                    return numbers[r][p] < numbers[r][q];
                }
            }
            return false;
        }

        private void judge(Needs needs, int rowCount) {
            Arrays.fill(carriedCounts, 0);
            firstBroken = NONE;
            for (int index = 0; index < needs.size; index++) {
                int earlier = needs.earlierOf(index);
                int later = needs.laterOf(index);
                int r = firstDifference(earlier, later, rowCount);
                if (r < rowCount) {
                    carriedCounts[r]++;
                    if (firstBroken == NONE && numbers[r][later] < numbers[r][earlier]) {
                        firstBroken = index;
                    }
                }
            }
        }

        private int firstDifference(int p, int q, int rowCount) {
            int r = 0;
            while (r < rowCount && numbers[r][p] == numbers[r][q]) {
                r++;
            }
            return r;
        }

        private int bandFrom(int row, int rowCount, Needs needs) {
            int end = rowCount;
            for (int index = 0; index < needs.size && end > row; index++) {
                int earlier = needs.earlierOf(index);
                int later = needs.laterOf(index);
                if (firstDifference(earlier, later, row) == row) {
                    int r = row;
                    while (r < end && numbers[r][later] >= numbers[r][earlier]) {
                        r++;
                    }
                    end = r;
                }
            }
            return end - row;
        }

        /** Cuts the visited points into pieces by their numbers of the first row. */
        private void cut(Points points) {
            pieceCount = 0;
            int bits = 0;
            int size = 0;
            for (int t = 0; t < points.size; t++) {
                int number = numbers[0][order[t]];
                bits |= 1 << points.statementOf[order[t]];
                size++;
                if (t + 1 == points.size || numbers[0][order[t + 1]] != number) {
                    addToPieces(number, bits, size);
                    bits = 0;
                    size = 0;
                }
            }
        }

        private void addToPieces(int number, int bits, int size) {
            int last = pieceCount - 1;
            if (last >= 0 && pieceThings[GREATEST][last] + 1 == number && pieceThings[BITS][last] == bits) {
                pieceThings[GREATEST][last] = number;
                pieceThings[POINTS][last] += size;
                return;
            }
            pieceThings[LEAST][pieceCount] = number;
            pieceThings[GREATEST][pieceCount] = number;
            pieceThings[BITS][pieceCount] = bits;
            pieceThings[POINTS][pieceCount] = size;
            pieceCount++;
        }

        private boolean areTimesOfAll(int size) {
            for (int p = 0; p < size; p++) {
                if (times[p] < 0 || times[p] >= size || order[times[p]] != p) {
                    return false;
                }
            }
            return true;
        }

        /** Goes through the points by groups of one number of the row ahead; each sends once a group. */
        private int messagesOf(int row, int processors, int size, Needs needs) {
            int ahead = row - 1;
            sort(grouped, size, Math.max(ahead, 0), row);
            int sent = 0;
            for (int t = 0; t < size; t++) {
                int p = grouped[t];
                if (t == 0 || row > 0 && numbers[ahead][p] != numbers[ahead][grouped[t - 1]]) {
                    sendMark++;
                }
                sent += sentBy(p, row, processors, needs);
            }
            return sent;
        }

        private int sentBy(int p, int row, int processors, Needs needs) {
            int from = Math.floorMod(numbers[row][p], processors);
            int sent = 0;
            for (int index = needs.starts[p]; index < needs.starts[p + 1]; index++) {
                int to = Math.floorMod(numbers[row][needs.laterOf(index)], processors);
                int way = MOST_PROCESSORS * from + to;
                if (needs.isFlow(index) && from != to && sendMarks[way] != sendMark) {
                    sendMarks[way] = sendMark;
                    sent++;
                }
            }
            return sent;
        }
    }

    /** Finds a schedule row by row among the rows of small numbers. */
    private static final class Finder {
        private static final int LEAST_NUMBER = -1;
        private static final int GREATEST_NUMBER = 2;

        private final int[][] found = new int[ITERATORS][ITERATORS];
        private final int[] open = new int[MOST_NEEDS];
        private int openCount;
        private final int[] best = new int[ITERATORS];
        private boolean hasBest;
        private long bestSum;
        private int bestSize;

        private int findRows(Needs needs, Points points, int depth) {
            openCount = needs.size;
            for (int index = 0; index < needs.size; index++) {
                open[index] = index;
            }
            for (int count = 0; count < depth; count++) {
                lookThrough(needs, points, depth, count);
                if (!hasBest) {
                    return count;
                }
                System.arraycopy(best, 0, found[count], 0, ITERATORS);
                closeCarried(needs, points);
            }
            return depth;
        }

        /** From the first by its numbers to the last, so that a later one has to be better. */
        private void lookThrough(Needs needs, Points points, int depth, int count) {
            hasBest = false;
            for (int a = LEAST_NUMBER; a <= GREATEST_NUMBER; a++) {
                for (int b = lowOf(1, depth); b <= highOf(1, depth); b++) {
                    for (int c = lowOf(2, depth); c <= highOf(2, depth); c++) {
                        if (isIndependent(a, b, c, count)) {
                            consider(a, b, c, needs, points);
                        }
                    }
                }
            }
        }

        private static int lowOf(int iterator, int depth) {
            return iterator < depth ? LEAST_NUMBER : 0;
        }

        private static int highOf(int iterator, int depth) {
            return iterator < depth ? GREATEST_NUMBER : 0;
        }

        private boolean isIndependent(int a, int b, int c, int count) {
            if (count == 0) {
                return a != 0 || b != 0 || c != 0;
            }
            int[] one = found[0];
            if (count == 1) {
                return one[1] * c != one[2] * b || one[2] * a != one[0] * c || one[0] * b != one[1] * a;
            }
            int[] two = found[1];
            int x = one[1] * two[2] - one[2] * two[1];
            int y = one[2] * two[0] - one[0] * two[2];
            int z = one[0] * two[1] - one[1] * two[0];
            return x * a + y * b + z * c != 0;
        }

        private void consider(int a, int b, int c, Needs needs, Points points) {
            long sum = 0;
            for (int x = 0; x < openCount; x++) {
                int going = difference(open[x], a, b, c, needs, points);
                if (going < 0) {
                    return;
                }
                sum += going;
            }
            int size = Math.abs(a) + Math.abs(b) + Math.abs(c);
            if (!hasBest || sum < bestSum || sum == bestSum && size < bestSize) {
                hasBest = true;
                bestSum = sum;
                bestSize = size;
                best[0] = a;
                best[1] = b;
                best[2] = c;
            }
        }

        private void closeCarried(Needs needs, Points points) {
            int kept = 0;
            for (int x = 0; x < openCount; x++) {
                if (difference(open[x], best[0], best[1], best[2], needs, points) == 0) {
                    open[kept] = open[x];
                    kept++;
                }
            }
            openCount = kept;
        }

        private static int difference(int index, int a, int b, int c, Needs needs, Points points) {
            int p = needs.earlierOf(index);
            int q = needs.laterOf(index);
            return a * (points.numbers[0][q] - points.numbers[0][p])
                    + b * (points.numbers[1][q] - points.numbers[1][p])
                    + c * (points.numbers[2][q] - points.numbers[2][p]);
        }
    }

    /** An interpreter: what the cells hold behind all points, done in an order. */
    private static final class Memory {
        private final int[] held = new int[MOST_CELLS];
        private long sum;
        private boolean isFresh;

        private void run(Statement[] statements, Points points, Cells cells, int[] order) {
            for (int c = 0; c < cells.size; c++) {
                held[c] = initialValue(cells.arrayOf[c], cells.firstOf[c], cells.secondOf[c]);
            }
            sum = 17;
            for (int t = 0; t < points.size; t++) {
                int p = order[t];
                int number = points.statementOf[p];
                int written = 0;
                if (statements[number].isWriting) {
                    written = valueOf(statements[number], number, cells.touched, ACCESSES * p);
                    held[cells.touched[ACCESSES * p + WRITE]] = written;
                }
                int iterators = points.numbers[0][p] + points.numbers[1][p] + points.numbers[2][p];
                sum = 31 * sum + number + 7 * iterators + 3 * written;
            }
            isFresh = true;
        }

        private int valueOf(Statement s, int number, int[] touched, int start) {
            boolean isReduction = s.isReduction();
            int value = isReduction ? 1 : number + 1;
            for (int m = 0; m < s.readCount; m++) {
                int read = held[touched[start + m]];
                if (isReduction) {
                    value += m == 0 ? read : 3 * read;
                } else {
                    value += 31 * (m + 1) * read;
                }
            }
            return value % PRIME;
        }
    }

    /** What the touches of cells cost: footprints, distances, misses of a cache. */
    private static final class Traffic {
        private static final int MOST_TOUCHES = 8000;
        private static final int LINE_BITS = 30;
        private static final long HALF_OF_LINES = 536870912L;

        private final int[] seen = new int[MOST_CELLS];
        private int seenMark;
        private final int[] tree = new int[MOST_TOUCHES + 1];
        private final int[] lastTouch = new int[MOST_CELLS];
        private final int[] distances = new int[MOST_TOUCHES + 1];
        private int touchLimit;
        private int touchCount;
        private int distanceCount;
        private long distanceSum;
        private boolean isFresh;
        private final long[] lineOf = new long[MOST_CELLS];
        private final long[] cache = new long[MOST_LINES];

        private int cellsOf(int[] numbers, int number, int size, Cells cells) {
            seenMark++;
            int count = 0;
            for (int p = 0; p < size; p++) {
                if (numbers[p] == number) {
                    for (int m = 0; m < ACCESSES; m++) {
                        int c = cells.touched[ACCESSES * p + m];
                        if (c != NONE && seen[c] != seenMark) {
                            seen[c] = seenMark;
                            count++;
                        }
                    }
                }
            }
            return count;
        }

        private void measure(int[] order, int size, Cells cells) {
            touchLimit = ACCESSES * size;
            Arrays.fill(tree, 0, touchLimit + 1, 0);
            Arrays.fill(distances, 0, touchLimit + 1, 0);
            Arrays.fill(lastTouch, 0, cells.size, 0);
            touchCount = 0;
            distanceCount = 0;
            distanceSum = 0;
            for (int t = 0; t < size; t++) {
                int start = ACCESSES * order[t];
                for (int m = 0; m < ACCESSES; m++) {
                    if (cells.touched[start + m] != NONE) {
                        touch(cells.touched[start + m]);
                    }
                }
            }
            isFresh = true;
        }

        /** The tree counts, at each cell's last touch, 1: those behind the last touch are other cells. */
        private void touch(int c) {
            int before = lastTouch[c];
            touchCount++;
            if (before > 0) {
                int distance = countTo(touchCount - 1) - countTo(before);
                distances[distance]++;
                distanceCount++;
                distanceSum += distance;
                change(before, -1);
            }
            change(touchCount, 1);
            lastTouch[c] = touchCount;
        }

        private void change(int at, int by) {
            for (int x = Math.max(at, 1); x <= touchLimit; x += x & -x) {
                tree[x] += by;
            }
        }

        private int countTo(int at) {
            int sum = 0;
            for (int x = at; x > 0; x -= x & -x) {
                sum += tree[x];
            }
            return sum;
        }

        private int touchesWithin(int distance) {
            int sum = 0;
            for (int d = 0; d <= distance && d <= touchLimit; d++) {
                sum += distances[d];
            }
            return sum;
        }

        /** Gives each cell its line, a number that no other line has. */
        private void layLines(Cells cells, boolean[] transposed, int wide) {
            for (int c = 0; c < cells.size; c++) {
                boolean isTransposed = transposed[cells.arrayOf[c]];
                long along = isTransposed ? cells.secondOf[c] : cells.firstOf[c];
                int across = isTransposed ? cells.firstOf[c] : cells.secondOf[c];
                int line = wide > 1 ? Math.floorDiv(across, wide) : across;
                lineOf[c] = ((along << LINE_BITS) + line + HALF_OF_LINES) * ARRAYS + cells.arrayOf[c];
            }
        }

        private int missesOf(int[] order, int size, Cells cells, int lines) {
            int misses = 0;
            int kept = 0;
            for (int t = 0; t < size; t++) {
                int start = ACCESSES * order[t];
                for (int m = 0; m < ACCESSES; m++) {
                    int c = cells.touched[start + m];
                    if (c != NONE && !isFetched(lineOf[c], kept)) {
                        misses++;
                        kept = Math.min(kept + 1, lines);
                        moveToFront(lineOf[c], kept - 1);
                    }
                }
            }
            return misses;
        }

        /** Whether the line is there; it is the first then. */
        private boolean isFetched(long line, int kept) {
            for (int x = 0; x < kept; x++) {
                if (cache[x] == line) {
                    moveToFront(line, x);
                    return true;
                }
            }
            return false;
        }

        private void moveToFront(long line, int from) {
            for (int x = from; x > 0; x--) {
                cache[x] = cache[x - 1];
            }
            cache[0] = line;
        }
    }

    /** Least storage: which moduli let all reads of an array find their cells. */
    private static final class Folding {
        private static final int GAPS = 64;

        private final int[] events = new int[MOST_CELLS];
        private final int[] writtenMarks = new int[MOST_CELLS];
        private int writtenMark;
        private int eventCount;
        private final int[] holder = new int[MOST_MODULUS];
        private final int[] gaps = new int[GAPS];
        private int gapCount;
        private boolean isHopeless;

        /** Lists the writes, and the reads of what was written: 2 times the cell, 1 more for a read. */
        private void follow(int array, int[] order, int size, Cells cells) {
            eventCount = 0;
            writtenMark++;
            for (int t = 0; t < size; t++) {
                int start = ACCESSES * order[t];
                for (int m = 0; m < ACCESSES; m++) {
                    int c = cells.touched[start + m];
                    if (c != NONE && cells.arrayOf[c] == array) {
                        note(c, m == WRITE);
                    }
                }
            }
        }

        private void note(int c, boolean isWrite) {
            if (isWrite) {
                writtenMarks[c] = writtenMark;
            }
            if (writtenMarks[c] == writtenMark) {
                events[eventCount] = 2 * c + (isWrite ? 0 : 1);
                eventCount++;
            }
        }

        private int leastModulus(Cells cells) {
            gapCount = 0;
            isHopeless = false;
            for (int modulus = 1; modulus <= MOST_MODULUS && !isHopeless; modulus++) {
                if (!isGapDivided(modulus) && isEnough(modulus, cells)) {
                    return modulus;
                }
            }
            return NONE;
        }

        /** Two cells once found in each other's way are so with each modulus that divides their gap. */
        private boolean isGapDivided(int modulus) {
            for (int g = 0; g < gapCount; g++) {
                if (gaps[g] % modulus == 0) {
                    return true;
                }
            }
            return false;
        }

        private boolean isEnough(int modulus, Cells cells) {
            for (int e = 0; e < eventCount; e++) {
                int c = events[e] >> 1;
                int number = numberOf(c, cells);
                int at = Math.floorMod(number, modulus);
                if ((events[e] & 1) == 0) {
                    holder[at] = c;
                } else if (holder[at] != c) {
                    keepGap(number - numberOf(holder[at], cells));
                    return false;
                }
            }
            return true;
        }

        private static int numberOf(int c, Cells cells) {
            return 100 * cells.firstOf[c] + cells.secondOf[c];
        }

        private void keepGap(int gap) {
            // Cells of one number are in each other's way with each modulus.
            isHopeless = isHopeless || gap == 0;
            if (gapCount < GAPS) {
                gaps[gapCount] = gap;
                gapCount++;
            }
        }
    }
}
