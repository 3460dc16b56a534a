import java.util.Arrays;
import java.util.NoSuchElementException;

/**
 * A solver of wishes: variables with ranges, rules that narrow them, levels that are taken back,
 * and a search that learns lines till it has a solution or a proof that there is none.
 *
 * All that is asked of solutions and rows is answered on sets of points: a point is one value for
 * each variable, numbered in the order of solutions, and each rule keeps the set of points at which
 * it holds. So narrowing, counting and cores are a few joins of such sets.
 */
public final class Wishsolver {
    private static final int NONE = -1;

    private static final int MOST_VARIABLES = 6;
    private static final int VALUES = 6;
    private static final int ALL_VALUES = 63;
    private static final int MOST_RULES = 12;
    private static final int MOST_ROWS = 12;
    private static final int ROW_NUMBERS = 3;
    private static final int MOST_LEVELS = 6;
    private static final int MOST_POINTS = 7776;
    /** So many longs hold one bit for each of the points. */
    private static final int WORDS = 122;
    private static final int LINES_AHEAD = 40;
    /** The empty line that ends a proof may come behind the forty. */
    private static final int MOST_LINES = 41;
    /** Far above the looks that the values of all ranges can cause. */
    private static final int MOST_LOOKS = 1000000;
    private static final int DIGEST_START = 6121;
    private static final int DIGEST_FACTOR = 31;

    private static final int SUM = 0;
    private static final int PRODUCT = 1;
    private static final int DISTANCE = 2;
    private static final int ELEMENT = 3;
    private static final int TABLE = 4;
    private static final int ORDER = 5;
    private static final int UNLIKE = 6;
    private static final int OFTEN = 7;
    private static final int RING = 8;
    private static final int PATH = 9;
    private static final int SLOPE = 10;

    private static final int AT_MOST = 0;
    private static final int AT_LEAST = 1;
    private static final int JUST = 2;

    private static final int QUEENS = 0;
    private static final int A_RING = 1;
    private static final int COLOURS = 2;
    private static final int A_ROW = 3;

    private static final int NO_ANSWER = 0;
    private static final int YES = 1;
    private static final int NO = 2;
    private static final int GIVEN_UP = 3;

    private final Problem problem;
    private final int[] ranges;
    private final Queue queue;
    private final Level[] kept;
    private int level;
    private final Terms slip;
    private final int[] slipRows;
    private int slipRowCount;
    private Search seeker;
    private int looked;
    private int taken;
    private int refused;
    private final StringBuilder text;
    private final int[] values;

    public Wishsolver() {
        problem = new Problem();
        ranges = new int[MOST_VARIABLES];
        queue = new Queue();
        kept = new Level[MOST_LEVELS];
        for (int i = 0; i < MOST_LEVELS; i++) {
            kept[i] = new Level();
        }
        slip = new Terms();
        slipRows = new int[MOST_ROWS * ROW_NUMBERS];
        text = new StringBuilder();
        values = new int[MOST_VARIABLES];
    }

    // ---- variables and rules

    public int variable(int set) throws IllegalArgumentException, IllegalStateException {
        if (set < 1 || set > ALL_VALUES) {
            throw new IllegalArgumentException("a told set is 1 to 63");
        }
        if (problem.count >= MOST_VARIABLES || level > 0 || isFailed()
                || problem.pointCount() * Integer.bitCount(set) > MOST_POINTS) {
            throw new IllegalStateException("no variable can come now");
        }
        int number = problem.count;
        addVariable(set);
        problem.rebuild();
        return number;
    }

    public int take(int variable, int value)
            throws IndexOutOfBoundsException, IllegalArgumentException {
        checkVariable(variable);
        int told = problem.told[variable];
        if (!isValue(value) || !isIn(told, value) || told == 1 << value) {
            throw new IllegalArgumentException("the value is not told, or all that is");
        }
        problem.told[variable] = told & ~(1 << value);
        if (isIn(ranges[variable], value)) {
            ranges[variable] &= ~(1 << value);
            if (ranges[variable] == 0) {
                emptyRanges();
            } else {
                wake(variable, NONE);
            }
        }
        return Integer.bitCount(ranges[variable]);
    }

    public int term(int variable, int weight)
            throws IndexOutOfBoundsException, IllegalArgumentException, IllegalStateException {
        checkVariable(variable);
        if (weight < -4 || weight > 4) {
            throw new IllegalArgumentException("a weight is -4 to 4");
        }
        if (isIn(slip.set, variable)) {
            throw new IllegalStateException("the slip has that variable");
        }
        slip.write(variable, weight);
        return slip.count();
    }

    public int row(int a, int b, int c) throws IllegalArgumentException, IllegalStateException {
        if (!isValue(a) || !isValue(b) || !isValue(c)) {
            throw new IllegalArgumentException("the numbers of a row are 0 to 5");
        }
        if (slipRowCount >= MOST_ROWS) {
            throw new IllegalStateException("the slip has 12 rows");
        }
        int at = slipRowCount * ROW_NUMBERS;
        slipRows[at] = a;
        slipRows[at + 1] = b;
        slipRows[at + 2] = c;
        slipRowCount++;
        return slipRowCount;
    }

    public int wipe() {
        int stood = slip.count() + slipRowCount;
        slip.clear();
        slipRowCount = 0;
        return stood;
    }

    public int sum(int relation, int bound, int price)
            throws IllegalArgumentException, IllegalStateException {
        if (relation < AT_MOST || relation > JUST || bound < -100 || bound > 100
                || !isPrice(price)) {
            throw new IllegalArgumentException("no such relation, bound or price");
        }
        if (slip.set == 0 || isFull()) {
            throw new IllegalStateException("no term, or 12 rules");
        }
        Rule rule = freshRule(SUM, slip.set, price);
        rule.relation = relation;
        rule.bound = bound;
        rule.terms.copy(slip);
        slip.clear();
        return enter(rule);
    }

    public int product(int x, int y, int z, int price)
            throws IndexOutOfBoundsException, IllegalArgumentException, IllegalStateException {
        checkTriple(x, y, z, price);
        checkRoom();
        return enter(freshTriple(PRODUCT, x, y, z, price));
    }

    public int distance(int x, int y, int z, int price)
            throws IndexOutOfBoundsException, IllegalArgumentException, IllegalStateException {
        checkTriple(x, y, z, price);
        checkRoom();
        return enter(freshTriple(DISTANCE, x, y, z, price));
    }

    public int element(int x, int y, int price)
            throws IndexOutOfBoundsException, IllegalArgumentException, IllegalStateException {
        checkVariable(x);
        checkVariable(y);
        if (x == y || !isPrice(price)) {
            throw new IllegalArgumentException("both are the same, or no such price");
        }
        checkRows();
        Rule rule = freshRule(ELEMENT, 1 << x | 1 << y, price);
        rule.x = x;
        rule.y = y;
        takeRows(rule);
        return enter(rule);
    }

    public int table(int x, int y, int z, int price)
            throws IndexOutOfBoundsException, IllegalArgumentException, IllegalStateException {
        checkTriple(x, y, z, price);
        checkRows();
        Rule rule = freshTriple(TABLE, x, y, z, price);
        takeRows(rule);
        return enter(rule);
    }

    public int order(int x, int c, int y, int price)
            throws IndexOutOfBoundsException, IllegalArgumentException, IllegalStateException {
        checkVariable(x);
        checkVariable(y);
        if (x == y || c < -5 || c > 5 || !isPrice(price)) {
            throw new IllegalArgumentException("both are the same, or no such c or price");
        }
        checkRoom();
        Rule rule = freshRule(ORDER, 1 << x | 1 << y, price);
        rule.x = x;
        rule.bound = c;
        rule.y = y;
        return enter(rule);
    }

    public int unlike(int set, int price)
            throws IndexOutOfBoundsException, IllegalArgumentException, IllegalStateException {
        checkSet(set, 2);
        checkPrice(price);
        checkRoom();
        return enter(freshRule(UNLIKE, set, price));
    }

    public int often(int set, int value, int least, int most, int price)
            throws IndexOutOfBoundsException, IllegalArgumentException, IllegalStateException {
        checkSet(set, 1);
        if (!isValue(value) || least < 0 || least > MOST_VARIABLES || most < least
                || most > MOST_VARIABLES || !isPrice(price)) {
            throw new IllegalArgumentException("no such value, least, most or price");
        }
        checkRoom();
        Rule rule = freshRule(OFTEN, set, price);
        rule.value = value;
        rule.least = least;
        rule.most = most;
        return enter(rule);
    }

    public int ring(int set, boolean isPath, int price)
            throws IndexOutOfBoundsException, IllegalArgumentException, IllegalStateException {
        checkSet(set, 2);
        checkPrice(price);
        checkRoom();
        return enter(freshRule(isPath ? PATH : RING, set, price));
    }

    public int slope(int set, int price)
            throws IndexOutOfBoundsException, IllegalArgumentException, IllegalStateException {
        checkSet(set, 2);
        checkPrice(price);
        checkRoom();
        return enter(freshRule(SLOPE, set, price));
    }

    public int drop(int rule) throws IndexOutOfBoundsException, IllegalStateException {
        checkRule(rule);
        if (problem.rules[rule].level != level) {
            throw new IllegalStateException("the rule came at another level");
        }
        problem.leaveOut(rule);
        System.arraycopy(problem.told, 0, ranges, 0, MOST_VARIABLES);
        queue.clear();
        for (int i = 0; i < problem.ruleCount; i++) {
            queue.add(i);
        }
        return problem.ruleCount;
    }

    public int goal() {
        problem.goal.copy(slip);
        slip.clear();
        return problem.goal.count();
    }

    public int puzzle(int kind, int n) throws IllegalArgumentException {
        if (kind < QUEENS || kind > A_ROW || n < (kind == COLOURS ? 3 : 2) || n > 5) {
            throw new IllegalArgumentException("no such puzzle");
        }
        clearHouse();
        int all = (1 << n) - 1;
        for (int i = 0; i < n; i++) {
            addVariable(all);
        }
        problem.rebuild();
        if (kind == QUEENS) {
            enter(freshRule(UNLIKE, all, 0));
            enter(freshRule(SLOPE, all, 0));
        } else if (kind == A_RING) {
            enter(freshRule(RING, all, 0));
        } else if (kind == COLOURS) {
            for (int i = 0; i < n; i++) {
                enter(freshRule(UNLIKE, 1 << i | 1 << (i + 1) % n, 0));
            }
        } else {
            enter(freshRule(UNLIKE, all, 0));
            enterEnds(n);
        }
        return problem.ruleCount;
    }

    // ---- levels, looking

    public int suppose() throws IllegalStateException {
        checkLevelRoom();
        openLevel();
        return level;
    }

    public int choose(int variable, int value)
            throws IndexOutOfBoundsException, IllegalArgumentException, IllegalStateException {
        checkVariable(variable);
        if (!isValue(value) || !isIn(ranges[variable], value)) {
            throw new IllegalArgumentException("the value is not in the range");
        }
        checkLevelRoom();
        openLevel();
        int lost = Integer.bitCount(ranges[variable]) - 1;
        problem.told[variable] = 1 << value;
        ranges[variable] = 1 << value;
        if (lost > 0) {
            wake(variable, NONE);
        }
        return lost;
    }

    public int back() throws IllegalStateException {
        if (level <= 0) {
            throw new IllegalStateException("the level is 0");
        }
        level--;
        Level was = kept[level];
        System.arraycopy(was.told, 0, problem.told, 0, MOST_VARIABLES);
        System.arraycopy(was.ranges, 0, ranges, 0, MOST_VARIABLES);
        queue.copy(was.queue);
        problem.ruleCount = was.ruleCount;
        return level;
    }

    public int look() throws NoSuchElementException {
        if (queue.count == 0) {
            throw new NoSuchElementException("no rule waits");
        }
        return lookAtFirst();
    }

    public int settle() {
        int looks = 0;
        for (int i = 0; i < MOST_LOOKS && queue.count > 0; i++) {
            lookAtFirst();
            looks++;
        }
        return looks;
    }

    // ---- the search

    public int begin(boolean isBounded, int bound) throws IllegalArgumentException {
        if (bound < -1000 || bound > 1000) {
            throw new IllegalArgumentException("a bound is -1000 to 1000");
        }
        if (seeker == null) {
            // Made late: many an object never searches, and the room is small.
            seeker = new Search();
        }
        seeker.open(problem, isBounded, bound);
        return countOf(seeker.rangesNow());
    }

    public int step() {
        return isSeeking() ? seeker.advance() : 0;
    }

    public int run(int most) throws IllegalArgumentException {
        if (most < 1 || most > 12) {
            throw new IllegalArgumentException("steps are 1 to 12");
        }
        int done = 0;
        if (isSeeking()) {
            for (int i = 0; i < most && seeker.answer == NO_ANSWER; i++) {
                seeker.advance();
                done++;
            }
        }
        return done;
    }

    public int draw() {
        refused++;
        return refused;
    }

    // ---- what is asked of variables and rules

    public int range(int variable, boolean isTold) throws IndexOutOfBoundsException {
        checkVariable(variable);
        return isTold ? problem.told[variable] : ranges[variable];
    }

    public int ofRule(int rule, int what)
            throws IndexOutOfBoundsException, IllegalArgumentException {
        checkRule(rule);
        if (what < 0 || what > 6) {
            throw new IllegalArgumentException("what is 0 to 6");
        }
        Rule asked = problem.rules[rule];
        switch (what) {
            case 0:
                return asked.kind;
            case 1:
                return asked.set;
            case 2:
                return asked.price;
            case 3:
                return asked.level;
            case 4:
                return queue.has(rule) ? 1 : 0;
            case 5:
                return problem.rowsOf(asked, ranges);
            default:
                return problem.rowlessOf(asked, ranges);
        }
    }

    public String waiting() {
        writeWaiting();
        return text.toString();
    }

    // ---- what is asked of solutions

    public int solutions() {
        return problem.solve();
    }

    public String solution(int nth) throws NoSuchElementException {
        problem.space.read(pointOfSolution(nth), values);
        writeValues(problem.count);
        return text.toString();
    }

    public int cost(int nth) throws NoSuchElementException {
        return problem.costAt(pointOfSolution(nth));
    }

    public int unlikes(int mirrors) throws IllegalArgumentException {
        checkMirrors(mirrors);
        problem.solve();
        int first = 0;
        for (int point = 0; point < problem.space.size; point++) {
            if (problem.isSolution(point) && problem.isFirstAlike(point, mirrors)) {
                first++;
            }
        }
        return first;
    }

    public int alike(int nth, int mirrors)
            throws IllegalArgumentException, NoSuchElementException {
        checkMirrors(mirrors);
        return problem.countAlike(pointOfSolution(nth), mirrors);
    }

    public int best(boolean isPlace) throws NoSuchElementException {
        if (problem.solve() == 0) {
            throw new NoSuchElementException("there is no solution");
        }
        int point = problem.cheapest();
        return isPlace ? problem.placeOf(point) : problem.costAt(point);
    }

    public String core() throws IllegalStateException {
        if (problem.solve() > 0) {
            throw new IllegalStateException("there is a solution");
        }
        writeRules(problem.findCore());
        return text.toString();
    }

    public int tights(int size) throws IllegalArgumentException {
        if (size < 0 || size > 4) {
            throw new IllegalArgumentException("a size is 0 to 4");
        }
        return problem.countTight(size);
    }

    // ---- what is asked of the search

    public int search(int what) throws IllegalArgumentException {
        if (what < 0 || what > 6) {
            throw new IllegalArgumentException("what is 0 to 6");
        }
        return isSeeking() ? seeker.tell(what) : 0;
    }

    public String chosen() {
        writeChosen();
        return text.toString();
    }

    public String line(int nth) throws IndexOutOfBoundsException {
        if (nth < 0 || nth >= lineCount()) {
            throw new IndexOutOfBoundsException("no such line");
        }
        writeChoices(seeker.lines[nth]);
        return text.toString();
    }

    public int weight(int variable) throws IndexOutOfBoundsException {
        checkVariable(variable);
        return isSeeking() ? seeker.weights[variable] : 1;
    }

    public int right() {
        return isSeeking() ? seeker.countRight() : 0;
    }

    public String found() throws NoSuchElementException {
        if (!isSeeking() || seeker.answer != YES) {
            throw new NoSuchElementException("nothing is found");
        }
        int[] last = seeker.rangesNow();
        int count = seeker.problem.count;
        for (int i = 0; i < count; i++) {
            values[i] = lowest(last[i]);
        }
        writeValues(count);
        return text.toString();
    }

    // ---- all

    public int house(int what) throws IllegalArgumentException {
        switch (what) {
            case 0:
                return problem.count;
            case 1:
                return problem.ruleCount;
            case 2:
                return level;
            case 3:
                return queue.count;
            case 4:
                return isFailed() ? 1 : 0;
            case 5:
                return countOf(ranges);
            case 6:
                return slip.count();
            case 7:
                return slipRowCount;
            case 8:
                return problem.goal.count();
            case 9:
                return looked;
            case 10:
                return taken;
            case 11:
                return refused;
            default:
                throw new IllegalArgumentException("what is 0 to 11");
        }
    }

    public boolean isSound() {
        return problem.hasRoomIn(ranges)
                && (queue.count > 0 || isFailed() || problem.isNarrow(ranges))
                && problem.isOrderFree()
                && (!isSeeking() || seeker.countRight() == seeker.lineCount)
                && problem.hasTightCore();
    }

    public long digest() {
        long d = DIGEST_START;
        for (int i = 0; i <= 11; i++) {
            d = mix(d, house(i));
        }
        for (int i = 0; i < problem.count; i++) {
            d = mix(d, problem.told[i]);
            d = mix(d, ranges[i]);
            d = mix(d, weight(i));
        }
        for (int i = 0; i < problem.ruleCount; i++) {
            for (int what = 0; what <= 6; what++) {
                d = mix(d, ofRule(i, what));
            }
        }
        writeWaiting();
        d = mix(d, text.length());
        d = mixSolutions(d);
        d = mixSearch(d);
        d = mix(d, right());
        return mix(d, isSound() ? 1 : 0);
    }

    // ---- checks

    private boolean isVariable(int variable) {
        return variable >= 0 && variable < problem.count;
    }

    private void checkVariable(int variable) {
        if (!isVariable(variable)) {
            throw new IndexOutOfBoundsException("no such variable");
        }
    }

    private void checkRule(int rule) {
        if (rule < 0 || rule >= problem.ruleCount) {
            throw new IndexOutOfBoundsException("no such rule");
        }
    }

    private void checkSet(int set, int least) {
        if (set < 0 || set >= 1 << problem.count || Integer.bitCount(set) < least) {
            throw new IndexOutOfBoundsException("no such set of variables");
        }
    }

    private void checkTriple(int x, int y, int z, int price) {
        if (!isVariable(x) || !isVariable(y) || !isVariable(z)) {
            throw new IndexOutOfBoundsException("no such variable");
        }
        if (x == y || x == z || y == z || !isPrice(price)) {
            throw new IllegalArgumentException("two are the same, or no such price");
        }
    }

    private void checkPrice(int price) {
        if (!isPrice(price)) {
            throw new IllegalArgumentException("a price is 0 to 9");
        }
    }

    private void checkRoom() {
        if (isFull()) {
            throw new IllegalStateException("there are 12 rules");
        }
    }

    private void checkRows() {
        if (slipRowCount == 0 || isFull()) {
            throw new IllegalStateException("no row, or 12 rules");
        }
    }

    private void checkLevelRoom() {
        if (level >= MOST_LEVELS) {
            throw new IllegalStateException("the level would be above 6");
        }
    }

    private void checkMirrors(int mirrors) {
        if (mirrors < 0 || mirrors > 3) {
            throw new IllegalArgumentException("mirrors are 0 to 3");
        }
    }

    private boolean isFull() {
        return problem.ruleCount >= MOST_RULES;
    }

    /** Without variables nothing can fail: there is no range that could be empty. */
    private boolean isFailed() {
        return problem.count > 0 && ranges[0] == 0;
    }

    private boolean isSeeking() {
        return seeker != null && seeker.isOpen;
    }

    private static boolean isValue(int value) {
        return value >= 0 && value < VALUES;
    }

    private static boolean isPrice(int price) {
        return price >= 0 && price <= 9;
    }

    // ---- sets

    private static boolean isIn(int set, int number) {
        return (set >> number & 1) != 0;
    }

    /** The smallest number of a set that is not empty. */
    private static int lowest(int set) {
        return Integer.bitCount((set & -set) - 1);
    }

    /** The greatest number of a set of values or variables; NONE of an empty one. */
    private static int highest(int set) {
        int number = NONE;
        for (int i = 0; i < VALUES; i++) {
            if ((set >> i & 1) != 0) {
                number = i;
            }
        }
        return number;
    }

    /** How many numbers all these sets have together. */
    private static int countOf(int[] sets) {
        int count = 0;
        for (int set : sets) {
            count += Integer.bitCount(set);
        }
        return count;
    }

    // ---- how the house changes

    private void addVariable(int set) {
        problem.told[problem.count] = set;
        ranges[problem.count] = set;
        problem.count++;
    }

    private void clearHouse() {
        problem.clear();
        emptyRanges();
        level = 0;
        wipe();
        if (seeker != null) {
            seeker.isOpen = false;
        }
    }

    /** The next rule of the row of rules, not yet among them: enter() makes it one. */
    private Rule freshRule(int kind, int set, int price) {
        Rule rule = problem.rules[problem.ruleCount];
        rule.start(kind, set, price);
        return rule;
    }

    private Rule freshTriple(int kind, int x, int y, int z, int price) {
        Rule rule = freshRule(kind, 1 << x | 1 << y | 1 << z, price);
        rule.x = x;
        rule.y = y;
        rule.z = z;
        return rule;
    }

    private void takeRows(Rule rule) {
        System.arraycopy(slipRows, 0, rule.rows, 0, slipRows.length);
        rule.rowCount = slipRowCount;
        slipRowCount = 0;
    }

    private int enter(Rule rule) {
        int number = problem.ruleCount;
        rule.level = level;
        rule.mark(problem.space, values);
        problem.ruleCount = number + 1;
        if (!isFailed()) {
            queue.add(number);
        }
        return number;
    }

    /** The sum of the puzzle of a row: the first and the last one are just n - 1. */
    private void enterEnds(int n) {
        Rule rule = freshRule(SUM, 1 | 1 << (n - 1), 0);
        rule.relation = JUST;
        rule.bound = n - 1;
        rule.terms.write(0, 1);
        rule.terms.write(n - 1, 1);
        enter(rule);
    }

    private void openLevel() {
        Level now = kept[level];
        System.arraycopy(problem.told, 0, now.told, 0, MOST_VARIABLES);
        System.arraycopy(ranges, 0, now.ranges, 0, MOST_VARIABLES);
        now.queue.copy(queue);
        now.ruleCount = problem.ruleCount;
        level++;
    }

    /** All ranges are empty, and nothing waits. */
    private void emptyRanges() {
        Arrays.fill(ranges, 0);
        queue.clear();
    }

    /** All rules with a variable come to the queue, but for one that is looked at. */
    private void wake(int variable, int without) {
        for (int i = 0; i < problem.ruleCount; i++) {
            if (i != without && isIn(problem.rules[i].set, variable)) {
                queue.add(i);
            }
        }
    }

    private int lookAtFirst() {
        int number = queue.takeFirst();
        if (number < 0 || number >= problem.ruleCount) {
            return 0;
        }
        looked++;
        Rule rule = problem.rules[number];
        if (rule.price > 0) {
            return 0;
        }
        int before = countOf(ranges);
        problem.space.spread(ranges);
        int losers = problem.narrow(rule, ranges);
        if (isFailed()) {
            emptyRanges();
        } else {
            for (int i = 0; i < problem.count; i++) {
                if (isIn(losers, i)) {
                    wake(i, number);
                }
            }
        }
        int lost = before - countOf(ranges);
        taken += lost;
        return lost;
    }

    // ---- helpers of what is asked

    private int pointOfSolution(int nth) {
        int point = nth < 0 || nth >= problem.solve() ? NONE : problem.pointAt(nth);
        if (point == NONE) {
            throw new NoSuchElementException("there are not so many solutions");
        }
        return point;
    }

    private int lineCount() {
        return isSeeking() ? seeker.lineCount : 0;
    }

    private void writeWaiting() {
        text.setLength(0);
        for (int i = 0; i < queue.count; i++) {
            writeNumber(queue.rules[i]);
        }
        writeNothing();
    }

    private void writeRules(int set) {
        text.setLength(0);
        for (int i = 0; i < MOST_RULES; i++) {
            if (isIn(set, i)) {
                writeNumber(i);
            }
        }
        writeNothing();
    }

    private void writeValues(int count) {
        text.setLength(0);
        for (int i = 0; i < count; i++) {
            writeNumber(values[i]);
        }
    }

    private void writeChosen() {
        if (isSeeking()) {
            writeChoices(seeker.choices);
        } else {
            text.setLength(0);
            writeNothing();
        }
    }

    private void writeChoices(Choices choices) {
        text.setLength(0);
        for (int i = 0; i < choices.count; i++) {
            writeNumber(choices.variables[i]);
            text.append('=');
            text.append(choices.values[i]);
        }
        writeNothing();
    }

    private void writeNumber(int number) {
        if (text.length() > 0) {
            text.append(' ');
        }
        text.append(number);
    }

    /** A list of nothing is told as a dash. */
    private void writeNothing() {
        if (text.length() == 0) {
            text.append('-');
        }
    }

    private static long mix(long d, long v) {
        return d * DIGEST_FACTOR + v;
    }

    private long mixSolutions(long start) {
        int count = problem.solve();
        int point = problem.cheapest();
        long d = mix(start, count);
        d = mix(d, count == 0 ? NONE : problem.costAt(point));
        d = mix(d, count == 0 ? NONE : problem.placeOf(point));
        d = mix(d, unlikes(3));
        if (count == 0) {
            writeRules(problem.findCore());
            d = mix(d, text.length());
        } else {
            d = mix(d, NONE);
        }
        d = mix(d, tights(1));
        return mix(d, tights(2));
    }

    private long mixSearch(long start) {
        long d = start;
        for (int what = 0; what <= 6; what++) {
            d = mix(d, search(what));
        }
        writeChosen();
        d = mix(d, text.length());
        int lines = lineCount();
        for (int i = 0; i < lines; i++) {
            writeChoices(seeker.lines[i]);
            d = mix(d, text.length());
        }
        return d;
    }

    // ---- classes inside

    /** Variables with a weight each: of the slip, of a sum, of the goal. */
    private static final class Terms {
        int set;
        final int[] weights = new int[MOST_VARIABLES];

        void write(int variable, int weight) {
            set |= 1 << variable;
            weights[variable] = weight;
        }

        void clear() {
            set = 0;
            Arrays.fill(weights, 0);
        }

        void copy(Terms other) {
            set = other.set;
            System.arraycopy(other.weights, 0, weights, 0, MOST_VARIABLES);
        }

        int count() {
            return Integer.bitCount(set);
        }

        int worth(int[] values) {
            int worth = 0;
            for (int i = 0; i < MOST_VARIABLES; i++) {
                if (isIn(set, i)) {
                    worth += weights[i] * values[i];
                }
            }
            return worth;
        }
    }

    /** One rule, and the points of the space at which it holds. */
    private static final class Rule {
        int kind;
        int set;
        int price;
        int level;
        int x;
        int y;
        int z;
        int relation;
        /** The bound of a sum; what stands with x in an order. */
        int bound;
        int value;
        int least;
        int most;
        final Terms terms = new Terms();
        int rowCount;
        final int[] rows = new int[MOST_ROWS * ROW_NUMBERS];
        int size;
        final int[] members = new int[MOST_VARIABLES];
        final long[] points = new long[WORDS];

        void start(int newKind, int newSet, int newPrice) {
            kind = newKind;
            set = newSet;
            price = newPrice;
            terms.clear();
            size = 0;
            for (int i = 0; i < MOST_VARIABLES; i++) {
                if (isIn(set, i)) {
                    members[size] = i;
                    size++;
                }
            }
        }

        /** What a search needs of a rule: where it holds, and what it costs if it does not. */
        void copyPoints(Rule other) {
            set = other.set;
            price = other.price;
            System.arraycopy(other.points, 0, points, 0, WORDS);
        }

        void mark(Space space, int[] values) {
            Arrays.fill(points, 0L);
            for (int point = 0; point < space.size; point++) {
                space.read(point, values);
                if (isHeld(values)) {
                    points[point >> 6] |= 1L << (point & 63);
                }
            }
        }

        boolean isHeld(int[] values) {
            switch (kind) {
                case SUM:
                    return isSumHeld(terms.worth(values));
                case PRODUCT:
                    return values[x] * values[y] == values[z];
                case DISTANCE:
                    return Math.abs(values[x] - values[y]) == values[z];
                case ELEMENT:
                    return values[x] < rowCount && rows[values[x] * ROW_NUMBERS] == values[y];
                case TABLE:
                    return hasRow(values[x], values[y], values[z]);
                case ORDER:
                    return values[x] + bound <= values[y];
                case UNLIKE:
                    return isUnlikeHeld(values);
                case OFTEN:
                    return isOftenHeld(values);
                case RING:
                case PATH:
                    return isRoundHeld(values);
                case SLOPE:
                    return isSlopeHeld(values);
                default:
                    return false;
            }
        }

        private boolean isSumHeld(int worth) {
            if (relation == AT_MOST) {
                return worth <= bound;
            }
            return relation == AT_LEAST ? worth >= bound : worth == bound;
        }

        private boolean hasRow(int a, int b, int c) {
            for (int i = 0; i < rowCount; i++) {
                int at = i * ROW_NUMBERS;
                if (rows[at] == a && rows[at + 1] == b && rows[at + 2] == c) {
                    return true;
                }
            }
            return false;
        }

        private boolean isUnlikeHeld(int[] values) {
            int seen = 0;
            for (int i = 0; i < size; i++) {
                int one = values[members[i]];
                if (isIn(seen, one)) {
                    return false;
                }
                seen |= 1 << one;
            }
            return true;
        }

        private boolean isOftenHeld(int[] values) {
            int times = 0;
            for (int i = 0; i < size; i++) {
                if (values[members[i]] == value) {
                    times++;
                }
            }
            return times >= least && times <= most;
        }

        /** Goes from place to place; behind the last one a ring is at 0 again, a path stays. */
        private boolean isRoundHeld(int[] values) {
            int seen = 0;
            int place = 0;
            int last = 0;
            for (int i = 0; i < size; i++) {
                if (place >= size || isIn(seen, place)) {
                    return false;
                }
                seen |= 1 << place;
                last = place;
                place = values[members[place]];
            }
            return place == (kind == PATH ? last : 0);
        }

        private boolean isSlopeHeld(int[] values) {
            for (int i = 0; i < size; i++) {
                for (int k = i + 1; k < size; k++) {
                    int apart = members[k] - members[i];
                    if (Math.abs(values[members[k]] - values[members[i]]) == apart) {
                        return false;
                    }
                }
            }
            return true;
        }
    }

    /**
     * All points: a value for each variable out of its base set, numbered in the order of solutions.
     * The base sets are those told as the last variable came: told sets only get smaller behind it.
     */
    private static final class Space {
        int count;
        int size = 1;
        int words = 1;
        final int[] bases = new int[MOST_VARIABLES];
        final int[] radix = new int[MOST_VARIABLES];
        final int[] valueOfRank = new int[MOST_VARIABLES * VALUES];
        final int[] rankOfValue = new int[MOST_VARIABLES * VALUES];
        /** For each variable and value the points that have it. */
        final long[] having = new long[MOST_VARIABLES * VALUES * WORDS];
        /** The points within the ranges that were spread last. */
        final long[] inside = new long[WORDS];

        void build(int newCount, int[] told, int[] values) {
            count = newCount;
            size = 1;
            for (int i = 0; i < count; i++) {
                bases[i] = told[i];
                rank(i);
                size *= radix[i];
            }
            words = (size + 63) >> 6;
            Arrays.fill(having, 0L);
            for (int point = 0; point < size; point++) {
                read(point, values);
                for (int i = 0; i < count; i++) {
                    int at = (i * VALUES + values[i]) * WORDS + (point >> 6);
                    having[at] |= 1L << (point & 63);
                }
            }
        }

        private void rank(int variable) {
            int rank = 0;
            for (int value = 0; value < VALUES; value++) {
                rankOfValue[variable * VALUES + value] = NONE;
                if (isIn(bases[variable], value)) {
                    rankOfValue[variable * VALUES + value] = rank;
                    valueOfRank[variable * VALUES + rank] = value;
                    rank++;
                }
            }
            radix[variable] = rank;
        }

        /** What a search needs of a space: it joins sets of points, and never reads one of them. */
        void copySets(Space other) {
            count = other.count;
            size = other.size;
            words = other.words;
            System.arraycopy(other.bases, 0, bases, 0, bases.length);
            System.arraycopy(other.having, 0, having, 0, having.length);
        }

        /** The values of a point. */
        void read(int point, int[] values) {
            int rest = point;
            for (int i = count - 1; i >= 0; i--) {
                int base = Math.max(1, radix[i]);
                values[i] = valueOfRank[i * VALUES + rest % base];
                rest /= base;
            }
        }

        /** The point with these values; NONE if a variable has no such value. */
        int pointOf(int[] values) {
            int point = 0;
            for (int i = 0; i < count; i++) {
                int rank = isValue(values[i]) ? rankOfValue[i * VALUES + values[i]] : NONE;
                if (rank == NONE) {
                    return NONE;
                }
                point = point * radix[i] + rank;
            }
            return point;
        }

        /** From now on the points within these ranges are inside. */
        void spread(int[] ranges) {
            for (int w = 0; w < words; w++) {
                int left = size - w * 64;
                inside[w] = left >= 64 ? -1L : (1L << left) - 1;
            }
            for (int i = 0; i < count; i++) {
                strike(i, bases[i] & ~ranges[i]);
            }
        }

        /** The points in which a variable has one of these values are inside no longer. */
        void strike(int variable, int gone) {
            for (int value = 0; value < VALUES; value++) {
                if ((gone >> value & 1) != 0) {
                    int from = (variable * VALUES + value) * WORDS;
                    for (int w = 0; w < words; w++) {
                        inside[w] &= ~having[from + w];
                    }
                }
            }
        }

        int countIn(long[] points) {
            int sum = 0;
            for (int w = 0; w < words; w++) {
                sum += Long.bitCount(inside[w] & points[w]);
            }
            return sum;
        }

        boolean isAnyIn(long[] points) {
            for (int w = 0; w < words; w++) {
                if ((inside[w] & points[w]) != 0) {
                    return true;
                }
            }
            return false;
        }

        /** Those of the values of a variable that some of the points inside has. */
        int backed(long[] points, int variable, int range) {
            int backed = 0;
            for (int value = 0; value < VALUES; value++) {
                if ((range >> value & 1) != 0) {
                    int from = (variable * VALUES + value) * WORDS;
                    for (int w = 0; w < words; w++) {
                        if ((inside[w] & points[w] & having[from + w]) != 0) {
                            backed |= 1 << value;
                            break;
                        }
                    }
                }
            }
            return backed;
        }
    }

    /** What is to be solved: variables, rules and a goal; a house has one, a search keeps one. */
    private static final class Problem {
        int count;
        final int[] told = new int[MOST_VARIABLES];
        int ruleCount;
        final Rule[] rules = new Rule[MOST_RULES];
        final Terms goal = new Terms();
        final Space space = new Space();
        /** The points that are solutions, as solve() found them last. */
        private final long[] solved = new long[WORDS];
        private final int[] values = new int[MOST_VARIABLES];
        private final int[] turnedValues = new int[MOST_VARIABLES];
        private final int[] rising = new int[MOST_VARIABLES];
        private final int[] falling = new int[MOST_VARIABLES];

        Problem() {
            for (int i = 0; i < MOST_RULES; i++) {
                rules[i] = new Rule();
            }
        }

        void clear() {
            count = 0;
            Arrays.fill(told, 0);
            ruleCount = 0;
            goal.clear();
        }

        void copy(Problem other) {
            count = other.count;
            System.arraycopy(other.told, 0, told, 0, MOST_VARIABLES);
            ruleCount = other.ruleCount;
            for (int i = 0; i < ruleCount; i++) {
                rules[i].copyPoints(other.rules[i]);
            }
            goal.copy(other.goal);
            space.copySets(other.space);
        }

        void rebuild() {
            space.build(count, told, values);
            for (int i = 0; i < ruleCount; i++) {
                rules[i].mark(space, values);
            }
        }

        /** The rule goes to the end of all, where the next one that comes writes over it. */
        void leaveOut(int number) {
            Rule gone = rules[number];
            int last = ruleCount - 1;
            for (int i = number; i < last; i++) {
                rules[i] = rules[i + 1];
            }
            rules[last] = gone;
            ruleCount = last;
        }

        int pointCount() {
            int product = 1;
            for (int i = 0; i < count; i++) {
                product *= Integer.bitCount(told[i]);
            }
            return product;
        }

        int hardRules() {
            int set = 0;
            for (int i = 0; i < ruleCount; i++) {
                if (rules[i].price == 0) {
                    set |= 1 << i;
                }
            }
            return set;
        }

        // -- rows of rules

        int rowsOf(Rule rule, int[] ranges) {
            int others = 1;
            for (int i = 0; i < count; i++) {
                if (!isIn(rule.set, i)) {
                    others *= Integer.bitCount(ranges[i]);
                }
            }
            space.spread(ranges);
            return others < 1 ? 0 : space.countIn(rule.points) / others;
        }

        int rowlessOf(Rule rule, int[] ranges) {
            space.spread(ranges);
            int rowless = 0;
            for (int i = 0; i < count; i++) {
                if (isIn(rule.set, i)) {
                    int backed = space.backed(rule.points, i, ranges[i]);
                    rowless += Integer.bitCount(ranges[i] & ~backed);
                }
            }
            return rowless;
        }

        /**
         * Takes the values that are in no row of a rule; the ranges are spread, and stay so.
         * Returns the variables that lost some; without a row all ranges are empty then.
         */
        int narrow(Rule rule, int[] ranges) {
            if (!space.isAnyIn(rule.points)) {
                Arrays.fill(ranges, 0);
                return rule.set;
            }
            int losers = 0;
            for (int i = 0; i < count; i++) {
                if ((rule.set >> i & 1) != 0) {
                    int backed = space.backed(rule.points, i, ranges[i]);
                    if (backed != ranges[i]) {
                        space.strike(i, ranges[i] & ~backed);
                        ranges[i] = backed;
                        losers |= 1 << i;
                    }
                }
            }
            return losers;
        }

        /** Narrows ranges by all hard rules till nothing goes. */
        private void narrowAll(int[] ranges, boolean isFalling) {
            space.spread(ranges);
            boolean isGoing = true;
            // Each turn but the last one takes one of at most 36 values.
            for (int turn = 0; turn <= MOST_VARIABLES * VALUES && isGoing; turn++) {
                isGoing = false;
                for (int i = 0; i < ruleCount; i++) {
                    Rule rule = rules[isFalling ? ruleCount - 1 - i : i];
                    if (rule.price == 0 && narrow(rule, ranges) != 0) {
                        isGoing = ranges[0] != 0;
                        if (!isGoing) {
                            break;
                        }
                    }
                }
            }
        }

        /** The least cost that ranges, spread and not empty, leave open. */
        int leastCost(int[] ranges) {
            int cost = 0;
            for (int i = 0; i < count; i++) {
                int weight = goal.weights[i];
                cost += weight * (weight < 0 ? highest(ranges[i]) : lowest(ranges[i]));
            }
            for (int i = 0; i < ruleCount; i++) {
                if (rules[i].price > 0 && !space.isAnyIn(rules[i].points)) {
                    cost += rules[i].price;
                }
            }
            return cost;
        }

        // -- solutions

        /** Finds all solutions and returns how many there are; the told sets are spread then. */
        int solve() {
            space.spread(told);
            int sum = 0;
            for (int w = 0; w < space.words; w++) {
                long points = space.inside[w];
                for (int i = 0; i < ruleCount; i++) {
                    if (rules[i].price == 0) {
                        points &= rules[i].points[w];
                    }
                }
                solved[w] = points;
                sum += Long.bitCount(points);
            }
            return sum;
        }

        boolean isSolution(int point) {
            return (solved[point >> 6] >> (point & 63) & 1) != 0;
        }

        int pointAt(int nth) {
            int ahead = 0;
            for (int point = 0; point < space.size; point++) {
                if (isSolution(point)) {
                    if (ahead == nth) {
                        return point;
                    }
                    ahead++;
                }
            }
            return NONE;
        }

        int placeOf(int point) {
            int ahead = 0;
            for (int other = 0; other < point; other++) {
                if (isSolution(other)) {
                    ahead++;
                }
            }
            return ahead;
        }

        int costAt(int point) {
            space.read(point, values);
            int cost = goal.worth(values);
            for (int i = 0; i < ruleCount; i++) {
                boolean isHeld = (rules[i].points[point >> 6] >> (point & 63) & 1) != 0;
                if (!isHeld) {
                    cost += rules[i].price;
                }
            }
            return cost;
        }

        /** The first solution with the least cost; NONE without a solution. */
        int cheapest() {
            int best = NONE;
            int bestCost = 0;
            for (int point = 0; point < space.size; point++) {
                if (isSolution(point)) {
                    int cost = costAt(point);
                    if (best == NONE || cost < bestCost) {
                        best = point;
                        bestCost = cost;
                    }
                }
            }
            return best;
        }

        // -- mirrors

        private int top() {
            int all = 0;
            for (int i = 0; i < count; i++) {
                all |= told[i];
            }
            return highest(all);
        }

        /** The solution that a point becomes by all these mirrors; NONE if it becomes none. */
        private int turned(int point, int mirrors, int top) {
            space.read(point, values);
            for (int i = 0; i < count; i++) {
                int value = values[isIn(mirrors, 0) ? count - 1 - i : i];
                turnedValues[i] = isIn(mirrors, 1) ? top - value : value;
            }
            int other = space.pointOf(turnedValues);
            return other == NONE || !isSolution(other) ? NONE : other;
        }

        boolean isFirstAlike(int point, int mirrors) {
            int top = top();
            for (int turn = 1; turn <= mirrors; turn++) {
                if ((turn & ~mirrors) == 0) {
                    int other = turned(point, turn, top);
                    if (other != NONE && other < point) {
                        return false;
                    }
                }
            }
            return true;
        }

        int countAlike(int point, int mirrors) {
            int top = top();
            int alike = 0;
            for (int turn = 0; turn <= mirrors; turn++) {
                if ((turn & ~mirrors) == 0) {
                    int other = turned(point, turn, top);
                    boolean isNew = other != NONE;
                    for (int earlier = 0; earlier < turn; earlier++) {
                        if ((earlier & ~mirrors) == 0 && turned(point, earlier, top) == other) {
                            isNew = false;
                        }
                    }
                    alike += isNew ? 1 : 0;
                }
            }
            return alike;
        }

        // -- cores

        /** Whether rules have a solution together; the told sets are spread. */
        private boolean isSolvable(int set) {
            for (int w = 0; w < space.words; w++) {
                long points = space.inside[w];
                for (int i = 0; i < ruleCount; i++) {
                    if ((set >> i & 1) != 0) {
                        points &= rules[i].points[w];
                    }
                }
                if (points != 0) {
                    return true;
                }
            }
            return false;
        }

        /** Whether rules have no solution, but would have one without any one of them. */
        private boolean isTight(int set) {
            if (isSolvable(set)) {
                return false;
            }
            for (int i = 0; i < ruleCount; i++) {
                if (isIn(set, i) && !isSolvable(set & ~(1 << i))) {
                    return false;
                }
            }
            return true;
        }

        /** The core, if there is no solution. */
        int findCore() {
            space.spread(told);
            int left = hardRules();
            for (int i = 0; i < ruleCount; i++) {
                if (isIn(left, i) && !isSolvable(left & ~(1 << i))) {
                    left &= ~(1 << i);
                }
            }
            return left;
        }

        int countTight(int size) {
            space.spread(told);
            int hard = hardRules();
            int tight = 0;
            for (int set = 0; set < 1 << ruleCount; set++) {
                if ((set & ~hard) == 0 && Integer.bitCount(set) == size && isTight(set)) {
                    tight++;
                }
            }
            return tight;
        }

        // -- whether all is sound

        /** Whether each value that some solution has is in its range. */
        boolean hasRoomIn(int[] ranges) {
            solve();
            for (int i = 0; i < count; i++) {
                if ((space.backed(solved, i, told[i]) & ~ranges[i]) != 0) {
                    return false;
                }
            }
            return true;
        }

        /** Whether no hard rule would take a value. */
        boolean isNarrow(int[] ranges) {
            for (int i = 0; i < ruleCount; i++) {
                if (rules[i].price == 0 && rowlessOf(rules[i], ranges) > 0) {
                    return false;
                }
            }
            return true;
        }

        /** Whether rising and falling numbers of the rules narrow the told sets alike. */
        boolean isOrderFree() {
            System.arraycopy(told, 0, rising, 0, MOST_VARIABLES);
            System.arraycopy(told, 0, falling, 0, MOST_VARIABLES);
            narrowAll(rising, false);
            narrowAll(falling, true);
            for (int i = 0; i < count; i++) {
                if (rising[i] != falling[i]) {
                    return false;
                }
            }
            return true;
        }

        boolean hasTightCore() {
            return solve() > 0 || isTight(findCore());
        }
    }

    /** Rules that wait, the first one first, each once. */
    private static final class Queue {
        int count;
        final int[] rules = new int[MOST_RULES];

        void add(int rule) {
            if (count < MOST_RULES && !has(rule)) {
                rules[count] = rule;
                count++;
            }
        }

        boolean has(int rule) {
            for (int i = 0; i < count; i++) {
                if (rules[i] == rule) {
                    return true;
                }
            }
            return false;
        }

        /** NONE if none waits. */
        int takeFirst() {
            if (count == 0) {
                return NONE;
            }
            int first = rules[0];
            count--;
            for (int i = 0; i < count; i++) {
                rules[i] = rules[i + 1];
            }
            return first;
        }

        void clear() {
            count = 0;
        }

        void copy(Queue other) {
            count = other.count;
            System.arraycopy(other.rules, 0, rules, 0, MOST_RULES);
        }
    }

    /** What a new level keeps, to be taken back. */
    private static final class Level {
        final int[] told = new int[MOST_VARIABLES];
        final int[] ranges = new int[MOST_VARIABLES];
        final Queue queue = new Queue();
        int ruleCount;
    }

    /** Choices of a search, as they were made; those of a line do not hold together. */
    private static final class Choices {
        int count;
        final int[] variables = new int[MOST_VARIABLES];
        final int[] values = new int[MOST_VARIABLES];

        void add(int variable, int value) {
            if (count < MOST_VARIABLES) {
                variables[count] = variable;
                values[count] = value;
                count++;
            }
        }

        void copyPart(Choices other, int places) {
            count = 0;
            for (int i = 0; i < other.count; i++) {
                if (isIn(places, i)) {
                    add(other.variables[i], other.values[i]);
                }
            }
        }
    }

    /** A search: its own problem, ranges behind each of its choices, and the lines it learned. */
    private static final class Search {
        final Problem problem = new Problem();
        boolean isOpen;
        private boolean isBounded;
        private int bound;
        int answer;
        private boolean isFailed;
        final Choices choices = new Choices();
        final Choices[] lines = new Choices[MOST_LINES];
        int lineCount;
        final int[] weights = new int[MOST_VARIABLES];
        private int made;
        private int jumps;
        private int lastJump;
        /** So many of the lines were looked at by countRight(), and so many of these are right. */
        private int judged;
        private int judgedRight;
        /** The ranges behind so many choices. */
        private final int[][] ranges = new int[MOST_VARIABLES + 1][MOST_VARIABLES];
        private final int[] tried = new int[MOST_VARIABLES];

        Search() {
            for (int i = 0; i < MOST_LINES; i++) {
                lines[i] = new Choices();
            }
        }

        void open(Problem asked, boolean hasBound, int newBound) {
            problem.copy(asked);
            isOpen = true;
            isBounded = hasBound;
            bound = newBound;
            answer = NO_ANSWER;
            choices.count = 0;
            lineCount = 0;
            Arrays.fill(weights, 1);
            made = 0;
            jumps = 0;
            lastJump = 0;
            judged = 0;
            judgedRight = 0;
            System.arraycopy(problem.told, 0, ranges[0], 0, MOST_VARIABLES);
            isFailed = isFailing(ranges[0], 0);
        }

        int[] rangesNow() {
            return ranges[choices.count];
        }

        int tell(int what) {
            switch (what) {
                case 0:
                    return answer;
                case 1:
                    return choices.count;
                case 2:
                    return lineCount;
                case 3:
                    return made;
                case 4:
                    return jumps;
                case 5:
                    return lastJump;
                default:
                    return isFailed ? 1 : 0;
            }
        }

        /** Does a step and returns which one. */
        int advance() {
            if (answer != NO_ANSWER) {
                return 0;
            }
            if (isFailed) {
                learn();
                return 1;
            }
            int variable = openVariable();
            if (variable == NONE) {
                answer = YES;
                return 2;
            }
            decide(variable);
            return 3;
        }

        /**
         * Narrows ranges by the hard rules and the first lines, till nothing goes.
         * Returns whether they fail by that, or by the bound; they are empty then.
         */
        private boolean isFailing(int[] now, int linesAhead) {
            problem.space.spread(now);
            boolean isGoing = true;
            // Each turn but the last one takes one of at most 36 values.
            for (int turn = 0; turn <= MOST_VARIABLES * VALUES && isGoing; turn++) {
                isGoing = false;
                for (int i = 0; i < problem.ruleCount; i++) {
                    Rule rule = problem.rules[i];
                    if (rule.price == 0 && problem.narrow(rule, now) != 0) {
                        if (now[0] == 0) {
                            return true;
                        }
                        isGoing = true;
                    }
                }
                for (int i = 0; i < linesAhead; i++) {
                    if (narrowByLine(lines[i], now)) {
                        if (now[0] == 0) {
                            return true;
                        }
                        isGoing = true;
                    }
                }
            }
            if (isBounded && problem.leastCost(now) > bound) {
                Arrays.fill(now, 0);
                return true;
            }
            return false;
        }

        /** A line takes a value only if all its other choices are as it says. */
        private boolean narrowByLine(Choices line, int[] now) {
            int open = NONE;
            for (int i = 0; i < line.count; i++) {
                int range = now[line.variables[i]];
                int said = 1 << line.values[i];
                if ((range & said) == 0) {
                    return false;
                }
                if (range != said) {
                    if (open != NONE) {
                        return false;
                    }
                    open = i;
                }
            }
            if (open == NONE) {
                Arrays.fill(now, 0);
            } else {
                now[line.variables[open]] &= ~(1 << line.values[open]);
                problem.space.strike(line.variables[open], 1 << line.values[open]);
            }
            return true;
        }

        /** Whether choices, made together from the beginning, fail by rules and so many lines. */
        private boolean isRefuted(Choices asked, int places, int linesAhead) {
            System.arraycopy(problem.told, 0, tried, 0, MOST_VARIABLES);
            for (int i = 0; i < asked.count; i++) {
                if (isIn(places, i)) {
                    tried[asked.variables[i]] = 1 << asked.values[i];
                }
            }
            return isFailing(tried, linesAhead);
        }

        private void learn() {
            int left = (1 << choices.count) - 1;
            for (int i = 0; i < choices.count; i++) {
                if (isRefuted(choices, left & ~(1 << i), lineCount)) {
                    left &= ~(1 << i);
                }
            }
            if (left != 0 && lineCount >= LINES_AHEAD) {
                answer = GIVEN_UP;
                return;
            }
            if (lineCount < MOST_LINES) {
                lines[lineCount].copyPart(choices, left);
                lineCount++;
            }
            if (left == 0) {
                answer = NO;
                return;
            }
            for (int i = 0; i < choices.count; i++) {
                if (isIn(left, i)) {
                    weights[choices.variables[i]]++;
                }
            }
            jump(left);
        }

        /** Back behind the last but one of the choices that a line has. */
        private void jump(int left) {
            int keep = highest(left & ~(1 << highest(left))) + 1;
            lastJump = choices.count - keep;
            choices.count = keep;
            jumps++;
            isFailed = isFailing(rangesNow(), lineCount);
        }

        /** The variable of the next choice; NONE if each has one value. */
        private int openVariable() {
            int[] now = rangesNow();
            int best = NONE;
            int fewest = 0;
            for (int i = 0; i < problem.count; i++) {
                int size = Integer.bitCount(now[i]);
                if (size > 1 && (best == NONE || size < fewest
                        || size == fewest && weights[i] > weights[best])) {
                    best = i;
                    fewest = size;
                }
            }
            return best;
        }

        private void decide(int variable) {
            int[] before = rangesNow();
            int value = lowest(before[variable]);
            choices.add(variable, value);
            int[] now = rangesNow();
            System.arraycopy(before, 0, now, 0, MOST_VARIABLES);
            now[variable] = 1 << value;
            made++;
            isFailed = isFailing(now, lineCount);
        }

        /** A line stays right or wrong for good: only those ahead of it count. */
        int countRight() {
            for (int i = judged; i < lineCount; i++) {
                if (isRefuted(lines[i], (1 << lines[i].count) - 1, i)) {
                    judgedRight++;
                }
            }
            judged = lineCount;
            return judgedRight;
        }
    }
}
