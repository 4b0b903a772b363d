import java.util.Arrays;

/** Rows of marks that are told only by figures, and whether any row can make those figures. */
public final class ToldFigures {
    public static final int NONE = -1, BAD = -2, NOT = -3, FULL = -4;

    private static final int NULL = 1, INDEX = 2, CAST = 3, STORE = 4, SIZE = 5;

    /** Written as shifts: LANGUAGE.md lists functions of Integer and Long, not their constants. */
    private static final int LEAST_INT = 1 << 31;
    private static final long LEAST_LONG = 1L << 63;

    private static final int MARKS = 7;
    private static final int MOST_N = 9;
    private static final int FIRST_N = 5;
    /** The rows of nine marks of seven kinds: no n and TOP make more. */
    private static final int MOST_ROWS = 5005;
    private static final int MOST_ROW_NUMBER = 9999999;

    private static final int MOST_BYTES = 100;
    private static final int MOST_CLAIMS = 10;
    private static final int CLAIM_SETS = 1 << MOST_CLAIMS;
    private static final int CLAIM_FIGURES = 5;

    private static final int SHEETS = 4;
    private static final int FORMS = 3;
    private static final int BYTES = 0, SHORTS = 1;
    private static final int MOST_ITEMS = 60;

    private static final int UP = 0, EVEN = 1, CUT = 2;

    private static final int MOST_OF_SHARES = 300;
    private static final int MOST_LAST_ITEMS = 12;
    private static final int MOST_FIRST_ITEMS = 6;
    private static final int MILLION = 1000000;
    private static final int MOST_READING = 10000;

    /** What a one stands for at the place of each mark in a row's number. */
    private static final int[] PLACES = {1000000, 100000, 10000, 1000, 100, 10, 1};
    private static final int[] FACTORIALS = {1, 1, 2, 6, 24, 120, 720, 5040, 40320, 362880};
    /** How often of 1000 an amount begins with 1, 2, .. 9. */
    private static final int[] FIRST_IN_1000 = {301, 176, 125, 97, 79, 67, 58, 51, 46};

    private final ClaimText text = new ClaimText();
    private final Row current = new Row();
    private final RowTable table = new RowTable();
    private final Sheet[] sheets = new Sheet[SHEETS];
    private final Chance chance = new Chance();
    private final Stretch stretch = new Stretch();
    private final Readings readings = new Readings();
    private int n = FIRST_N;
    private int top = MARKS - 1;
    private int believed;
    private int finding;
    private boolean rowsStand;
    private boolean heldStands;

    public ToldFigures() {
        for (int s = 0; s < SHEETS; s++) {
            sheets[s] = new Sheet();
        }
    }

    // ---- rows, claims

    public int set(int what, int v) {
        if (what == 0 && v >= 1 && v <= MOST_N) {
            int was = n;
            n = v;
            rowsStand = false;
            return was;
        }
        if (what == 1 && v >= 0 && v < MARKS) {
            int was = top;
            top = v;
            rowsStand = false;
            return was;
        }
        return BAD;
    }

    public int type(int b) {
        if (b < 0 || b > 255) {
            return BAD;
        }
        if (!text.append(b)) {
            return FULL;
        }
        readClaims();
        return text.length;
    }

    public int wipe() {
        int was = text.length;
        text.length = 0;
        readClaims();
        return was;
    }

    public int fault() {
        return text.fault;
    }

    public int claims() {
        return faulty() ? NOT : text.size;
    }

    public int claim(int i, int what) {
        if (i < 0 || what < 0 || what >= CLAIM_FIGURES) {
            return BAD;
        }
        if (faulty()) {
            return NOT;
        }
        return i < text.size ? text.told(i, what) : BAD;
    }

    public int believe(int bits) {
        if (bits < 0) {
            return BAD;
        }
        if (faulty()) {
            return NOT;
        }
        if ((bits & ~text.all()) != 0) {
            return BAD;
        }
        int was = believed;
        believed = bits;
        return was;
    }

    public int put(int row) {
        if (row < 0 || row > MOST_ROW_NUMBER) {
            return BAD;
        }
        current.take(row);
        if (current.size != n || current.greatest > top) {
            return BAD;
        }
        if (faulty()) {
            return NOT;
        }
        text.settle(n);
        return text.heldBy(current);
    }

    // ---- what can be

    public int rows() {
        layRows();
        return table.size;
    }

    public int can() {
        if (faulty()) {
            return NOT;
        }
        judgeRows();
        return table.howMany(believed);
    }

    public int ranked(int i) {
        if (i < 0) {
            return BAD;
        }
        if (faulty()) {
            return NOT;
        }
        judgeRows();
        return table.rankedNumber(believed, i);
    }

    public long ways() {
        if (faulty()) {
            return refusedLong(NOT);
        }
        judgeRows();
        return table.orders(believed, n);
    }

    public int bound(int mark, int end) {
        if (mark < NONE || mark >= MARKS || end < 0 || end > 1) {
            return BAD;
        }
        if (faulty()) {
            return NOT;
        }
        judgeRows();
        return table.outermost(believed, mark, end == 1);
    }

    public int alone() {
        if (faulty()) {
            return NOT;
        }
        judgeRows();
        return text.all() & ~table.everHeld();
    }

    public int fewest() {
        if (faulty()) {
            return NOT;
        }
        judgeRows();
        return table.fewestDoubts(believed);
    }

    public int quarrel() {
        if (faulty()) {
            return NOT;
        }
        judgeRows();
        return table.leastQuarrel(believed);
    }

    public int ask() {
        if (faulty()) {
            return NOT;
        }
        judgeRows();
        return table.bestQuestion(believed);
    }

    // ---- shares, figures

    public int shares(int s, int rule, int what) {
        if (!isSheet(s) || !isRule(rule) || what < 0 || what > 1) {
            return BAD;
        }
        if (isLost(s)) {
            return found(NULL);
        }
        if (!sheets[s].isWithin(0, 100)) {
            return NOT;
        }
        return what == 0 ? howManyTotals(sheets[s], rule) : leastTotal(sheets[s], rule);
    }

    public int share(int s, int rule, int n) {
        if (!isSheet(s) || !isRule(rule) || n < 1 || n > MOST_OF_SHARES) {
            return BAD;
        }
        if (isLost(s)) {
            return found(NULL);
        }
        if (!sheets[s].isWithin(0, 100)) {
            return NOT;
        }
        return canBeTotal(sheets[s], rule, n) ? 1 : 0;
    }

    public int last(int s, int figure) {
        if (!isSheet(s) || figure < 0 || figure > 9) {
            return BAD;
        }
        return isLost(s) ? found(NULL) : sheets[s].howManyEndIn(figure);
    }

    public int lastChance(int s) {
        if (!isSheet(s)) {
            return BAD;
        }
        if (isLost(s)) {
            return found(NULL);
        }
        Sheet sheet = sheets[s];
        if (sheet.size > MOST_LAST_ITEMS) {
            return FULL;
        }
        int most = 0;
        for (int figure = 0; figure <= 9; figure++) {
            most = Math.max(most, sheet.howManyEndIn(figure));
        }
        return chance.ofSomeFigure(sheet.size, most);
    }

    public int first(int s, int figure) {
        if (!isSheet(s) || figure < 1 || figure > 9) {
            return BAD;
        }
        return isLost(s) ? found(NULL) : sheets[s].howManyBeginWith(figure);
    }

    public int firstChance(int s, int figure) {
        if (!isSheet(s) || figure < 1 || figure > 9) {
            return BAD;
        }
        if (isLost(s)) {
            return found(NULL);
        }
        Sheet sheet = sheets[s];
        int items = sheet.size - sheet.howManyBeginWith(0);
        if (items > MOST_FIRST_ITEMS) {
            return FULL;
        }
        return chance.ofFirstFigure(items, sheet.howManyBeginWith(figure), FIRST_IN_1000[figure - 1]);
    }

    // ---- copies, twice

    public long copies(int s, int t, int what) {
        if (!isSheet(s) || !isSheet(t) || what < 0 || what > 3) {
            return refusedLong(BAD);
        }
        if (isLost(s) || isLost(t)) {
            return refusedLong(found(NULL));
        }
        if (sheets[s].size == 0 || sheets[t].size == 0) {
            return refusedLong(NOT);
        }
        stretch.find(sheets[s], sheets[t]);
        return stretch.told(what);
    }

    public long twice(int s, int what) {
        if (!isSheet(s) || what < 0 || what > 4) {
            return refusedLong(BAD);
        }
        if (isLost(s)) {
            return refusedLong(found(NULL));
        }
        Sheet sheet = sheets[s];
        boolean paired = sheet.size > 0 && sheet.size % 2 == 0;
        if (!paired || !sheet.isWithin(-MOST_READING, MOST_READING)) {
            return refusedLong(NOT);
        }
        readings.compare(sheet);
        return readings.told(what);
    }

    // ---- sheets

    public int sheet(int s, int form, int n) {
        if (!isSheet(s) || !isForm(form) || n > MOST_ITEMS) {
            return BAD;
        }
        if (n < 0) {
            return found(SIZE);
        }
        sheets[s].begin(form, n);
        return n;
    }

    public int lose(int s) {
        if (!isSheet(s)) {
            return BAD;
        }
        if (isLost(s)) {
            return found(NULL);
        }
        sheets[s].lost = true;
        return sheets[s].size;
    }

    public int lay(int s, int form, int i, int v) {
        if (!isSheet(s) || !isForm(form)) {
            return BAD;
        }
        int trouble = itemTrouble(sheets[s], form, i);
        if (trouble != 0) {
            return found(trouble);
        }
        sheets[s].keep(i, v);
        return 1;
    }

    public int get(int s, int form, int i) {
        if (!isSheet(s) || !isForm(form)) {
            return LEAST_INT;
        }
        int trouble = itemTrouble(sheets[s], form, i);
        if (trouble != 0) {
            finding = trouble;
            return LEAST_INT;
        }
        return sheets[s].item(i);
    }

    public int copy(int s, int i, int t, int j, int n) {
        if (!isSheet(s) || !isSheet(t)) {
            return BAD;
        }
        if (isLost(s) || isLost(t)) {
            return found(NULL);
        }
        if (sheets[s].form != sheets[t].form) {
            return found(STORE);
        }
        if (!sheets[s].hasStretch(i, n) || !sheets[t].hasStretch(j, n)) {
            return found(INDEX);
        }
        System.arraycopy(sheets[s].items, i, sheets[t].items, j, n);
        return 1;
    }

    public int write(int s) {
        if (!isSheet(s)) {
            return BAD;
        }
        if (isLost(s)) {
            return found(NULL);
        }
        if (faulty()) {
            return NOT;
        }
        judgeRows();
        return table.writeTo(sheets[s], believed);
    }

    public int count(int what) {
        switch (what) {
            case 0:
                return n;
            case 1:
                return top;
            case 2:
                return text.length;
            case 3:
                return believed;
            case 4:
                return sheetsThere();
            case 8:
                return finding;
            default:
                return BAD;
        }
    }

    public long digest() {
        long h = 17;
        for (int what = 0; what <= 4; what++) {
            h = 31 * h + count(what);
        }
        h = 31 * h + fault();
        h = 31 * h + claims();
        for (int i = 0; i < claims(); i++) {
            for (int what = 0; what < CLAIM_FIGURES; what++) {
                h = 31 * h + claim(i, what);
            }
        }
        h = 31 * h + can();
        h = 31 * h + alone();
        h = 31 * h + fewest();
        h = 31 * h + ask();
        return h;
    }

    // ---- what the calls share

    private static long refusedLong(int refusal) {
        return LEAST_LONG - refusal;
    }

    private int found(int number) {
        finding = number;
        return -10 - number;
    }

    private boolean faulty() {
        return text.fault != NONE;
    }

    private static boolean isSheet(int s) {
        return s >= 0 && s < SHEETS;
    }

    private static boolean isForm(int form) {
        return form >= 0 && form < FORMS;
    }

    private static boolean isRule(int rule) {
        return rule >= UP && rule <= CUT;
    }

    private boolean isLost(int s) {
        return !isSheet(s) || sheets[s].lost;
    }

    private static int itemTrouble(Sheet sheet, int form, int i) {
        if (sheet.lost) {
            return NULL;
        }
        if (sheet.form != form) {
            return CAST;
        }
        return i < 0 || i >= sheet.size ? INDEX : 0;
    }

    private int sheetsThere() {
        int there = 0;
        for (int s = 0; s < SHEETS; s++) {
            if (!isLost(s)) {
                there++;
            }
        }
        return there;
    }

    private void readClaims() {
        text.read();
        believed = text.all();
        heldStands = false;
    }

    /** The table is made only when it is asked for: many bytes are typed between two questions. */
    private void layRows() {
        if (!rowsStand) {
            table.fill(n, top, current);
            rowsStand = true;
            heldStands = false;
        }
    }

    private void judgeRows() {
        layRows();
        if (!heldStands) {
            text.settle(n);
            table.judge(text, current);
            heldStands = true;
        }
    }

    private static int howManyTotals(Sheet sheet, int rule) {
        int totals = 0;
        for (int total = 1; total <= MOST_OF_SHARES; total++) {
            if (canBeTotal(sheet, rule, total)) {
                totals++;
            }
        }
        return totals;
    }

    private static int leastTotal(Sheet sheet, int rule) {
        for (int total = 1; total <= MOST_OF_SHARES; total++) {
            if (canBeTotal(sheet, rule, total)) {
                return total;
            }
        }
        return NONE;
    }

    /** The numbers behind one share lie side by side, so their sums do too: both ends suffice. */
    private static boolean canBeTotal(Sheet sheet, int rule, int total) {
        int least = 0;
        int most = 0;
        for (int i = 0; i < sheet.size; i++) {
            int share = sheet.item(i);
            int low = Rounding.least(share, rule, 100, total);
            int high = Rounding.most(share, rule, 100, total);
            if (low > high) {
                return false;
            }
            least += low;
            most += high;
        }
        return least <= total && total <= most;
    }

    /**
     * Rounding backwards: the whole numbers x, 0 or more, that a rule rounds to v when they are told
     * as factor x / divisor, or as factor times the root of x / divisor. They lie side by side, so
     * the least and the most of them tell them all; the most is below the least if there are none.
     */
    private static final class Rounding {
        static int least(int v, int rule, int factor, int divisor) {
            long low = lowEndTwice(v, rule);
            return leastFrom(low * divisor, 2L * factor, endsAreOut(v, rule));
        }

        static int most(int v, int rule, int factor, int divisor) {
            long high = highEndTwice(v, rule);
            return mostTo(high * divisor, 2L * factor, endsAreIn(v, rule));
        }

        static int leastOfRoot(int v, int rule, int factor, int divisor) {
            long low = lowEndTwice(v, rule);
            return leastFrom(low * low * divisor, 4L * factor * factor, endsAreOut(v, rule));
        }

        static int mostOfRoot(int v, int rule, int factor, int divisor) {
            long high = highEndTwice(v, rule);
            return mostTo(high * high * divisor, 4L * factor * factor, endsAreIn(v, rule));
        }

        /** Twice, since the end may be a half; not below 0, since x is not. */
        private static int lowEndTwice(int v, int rule) {
            return rule == CUT ? 2 * v : Math.max(2 * v - 1, 0);
        }

        private static int highEndTwice(int v, int rule) {
            return rule == CUT ? 2 * v + 2 : 2 * v + 1;
        }

        /** The even rule rounds both ends to an even v and none to an odd one; others the low end. */
        private static boolean endsAreIn(int v, int rule) {
            return rule == EVEN && v % 2 == 0;
        }

        private static boolean endsAreOut(int v, int rule) {
            return rule == EVEN && v % 2 != 0;
        }

        private static int leastFrom(long low, long unit, boolean endIsOut) {
            long step = Math.max(unit, 1);
            return (int) ((endIsOut ? low + step : low + step - 1) / step);
        }

        private static int mostTo(long high, long unit, boolean endIsIn) {
            long step = Math.max(unit, 1);
            return (int) ((endIsIn ? high : high - 1) / step);
        }
    }

    /** One row of marks, by how many there are of each, with the figures that claims speak of. */
    private static final class Row {
        final int[] counts = new int[MARKS];
        int size;
        int sum;
        int squares;
        int least;
        int greatest;
        int commonest;

        /** The first row in order: all marks are 0. */
        void begin(int marks) {
            Arrays.fill(counts, 0);
            counts[0] = marks;
        }

        /** The next row in order; false behind the last one. */
        boolean step(int highest) {
            int last = Math.min(highest, MARKS - 1);
            for (int mark = last - 1; mark >= 0; mark--) {
                if (counts[mark] > 0) {
                    int moved = counts[last] + 1;
                    counts[last] = 0;
                    counts[mark]--;
                    counts[mark + 1] = moved;
                    return true;
                }
            }
            return false;
        }

        int number() {
            int number = 0;
            for (int mark = 0; mark < MARKS; mark++) {
                number += counts[mark] * PLACES[mark];
            }
            return number;
        }

        void take(int number) {
            size = 0;
            sum = 0;
            squares = 0;
            least = NONE;
            greatest = NONE;
            commonest = NONE;
            int most = 0;
            int rest = number;
            for (int mark = MARKS - 1; mark >= 0; mark--) {
                int there = rest % 10;
                rest /= 10;
                counts[mark] = there;
                if (there > 0) {
                    size += there;
                    sum += mark * there;
                    squares += mark * mark * there;
                    least = mark;
                    greatest = greatest == NONE ? mark : greatest;
                }
                if (there > 0 && there >= most) {
                    most = there;
                    commonest = mark;
                }
            }
        }

        static int countIn(int number, int mark) {
            return number < 0 || mark < 0 || mark >= MARKS ? 0 : number / PLACES[mark] % 10;
        }

        static int sumIn(int number) {
            int sum = 0;
            for (int mark = 0; mark < MARKS; mark++) {
                sum += mark * countIn(number, mark);
            }
            return sum;
        }

        int howMany(int mark) {
            return mark < 0 || mark >= MARKS ? 0 : counts[mark];
        }

        int howManyFrom(int mark) {
            int there = 0;
            for (int k = Math.max(mark, 0); k < MARKS; k++) {
                there += counts[k];
            }
            return there;
        }

        int unevenness() {
            return size * squares - sum * sum;
        }

        /** The mark at a place is as great as there are marks that end ahead of it. */
        int middleTwice() {
            int twice = 0;
            int upToHere = 0;
            for (int mark = 0; mark < MARKS; mark++) {
                upToHere += counts[mark];
                twice += upToHere <= (size - 1) / 2 ? 1 : 0;
                twice += upToHere <= size / 2 ? 1 : 0;
            }
            return twice;
        }
    }

    /** The text of claims, and what it says claim by claim if it has no fault. */
    private static final class ClaimText {
        static final String LETTERS = "msvdchlgo";
        static final String RULES = "uet";
        static final int MEAN = 0, SPREAD = 1, WHOLE_SPREAD = 2, MIDDLE = 3, COUNT = 4;
        static final int SHARE = 5, LEAST = 6, GREATEST = 7, COMMONEST = 8;
        static final int[] SCALES = {1, 10, 100};

        final int[] bytes = new int[MOST_BYTES];
        final int[] kinds = new int[MOST_CLAIMS];
        final int[] marks = new int[MOST_CLAIMS];
        final int[] numbers = new int[MOST_CLAIMS];
        final int[] behind = new int[MOST_CLAIMS];
        final int[] rules = new int[MOST_CLAIMS];
        /** The least and the most of the row's figure with which each claim holds. */
        final int[] least = new int[MOST_CLAIMS];
        final int[] most = new int[MOST_CLAIMS];
        int length;
        int size;
        int fault = NONE;
        int at;

        boolean append(int b) {
            if (length < 0 || length >= MOST_BYTES) {
                return false;
            }
            bytes[length] = b;
            length++;
            return true;
        }

        /** The claims that there are, as bits. */
        int all() {
            return (1 << size) - 1;
        }

        void read() {
            at = 0;
            size = 0;
            fault = NONE;
            if (length == 0) {
                return;
            }
            for (int i = 0; i < MOST_CLAIMS; i++) {
                if (!readClaim(i)) {
                    break;
                }
                if (at >= length) {
                    size = i + 1;
                    return;
                }
                if (i == MOST_CLAIMS - 1 || !skip(';')) {
                    break;
                }
            }
            fault = at;
        }

        private boolean readClaim(int i) {
            int kind = at < length ? LETTERS.indexOf((char) bytes[at]) : NONE;
            if (kind < 0) {
                return false;
            }
            at++;
            kinds[i] = kind;
            marks[i] = NONE;
            numbers[i] = NONE;
            behind[i] = 0;
            rules[i] = UP;
            switch (kind) {
                case COUNT:
                    return readMark(i) && skip('=') && readNumber(i, 2);
                case SHARE:
                    return readMark(i) && skip('=') && readNumber(i, 3) && skip('%') && readRule(i);
                case LEAST:
                case GREATEST:
                case COMMONEST:
                    return skip('=') && readMark(i);
                default:
                    return skip('=') && readNumber(i, 2) && readBehind(i) && readRule(i);
            }
        }

        private boolean skip(char sign) {
            if (at >= length || bytes[at] != sign) {
                return false;
            }
            at++;
            return true;
        }

        /** The figure that stands here; NONE: there is none. */
        private int figureHere() {
            return at < length && bytes[at] >= '0' && bytes[at] <= '9' ? bytes[at] - '0' : NONE;
        }

        private boolean readMark(int i) {
            int figure = figureHere();
            if (figure == NONE || figure >= MARKS) {
                return false;
            }
            marks[i] = figure;
            at++;
            return true;
        }

        private boolean readNumber(int i, int most) {
            numbers[i] = 0;
            return readFigures(i, most) > 0;
        }

        private boolean readBehind(int i) {
            if (!skip('.')) {
                return true;
            }
            behind[i] = readFigures(i, 2);
            return behind[i] > 0;
        }

        private int readFigures(int i, int most) {
            int figures = 0;
            while (figures < most && figureHere() != NONE) {
                numbers[i] = 10 * numbers[i] + figureHere();
                figures++;
                at++;
            }
            return figures;
        }

        private boolean readRule(int i) {
            int rule = at < length ? RULES.indexOf((char) bytes[at]) : NONE;
            if (rule >= 0) {
                rules[i] = rule;
                at++;
            }
            return true;
        }

        int told(int i, int what) {
            switch (what) {
                case 0:
                    return kinds[i];
                case 1:
                    return marks[i];
                case 2:
                    return numbers[i];
                case 3:
                    return behind[i];
                default:
                    return rules[i];
            }
        }

        /** Finds for rows of so many marks when each claim holds. */
        void settle(int marksInRow) {
            for (int i = 0; i < size; i++) {
                switch (kinds[i]) {
                    case MEAN:
                        settleRounded(i, SCALES[behind[i]], marksInRow);
                        break;
                    case SPREAD:
                        settleRoot(i, SCALES[behind[i]], marksInRow * (marksInRow - 1));
                        break;
                    case WHOLE_SPREAD:
                        settleRoot(i, SCALES[behind[i]], marksInRow * marksInRow);
                        break;
                    case MIDDLE:
                        settleRounded(i, SCALES[behind[i]], 2);
                        break;
                    case SHARE:
                        settleRounded(i, 100, marksInRow);
                        break;
                    case COUNT:
                        settleOne(i, numbers[i]);
                        break;
                    default:
                        settleOne(i, marks[i]);
                        break;
                }
            }
        }

        private void settleRounded(int i, int factor, int divisor) {
            least[i] = Rounding.least(numbers[i], rules[i], factor, divisor);
            most[i] = Rounding.most(numbers[i], rules[i], factor, divisor);
        }

        /** Of one mark the divisor is 0, but so is what it would divide: any other does as well. */
        private void settleRoot(int i, int factor, int divisor) {
            int other = Math.max(divisor, 1);
            least[i] = Rounding.leastOfRoot(numbers[i], rules[i], factor, other);
            most[i] = Rounding.mostOfRoot(numbers[i], rules[i], factor, other);
        }

        private void settleOne(int i, int figure) {
            least[i] = figure;
            most[i] = figure;
        }

        int heldBy(Row row) {
            int held = 0;
            for (int i = 0; i < size; i++) {
                int figure = figureOf(row, i);
                if (figure >= least[i] && figure <= most[i]) {
                    held |= 1 << i;
                }
            }
            return held;
        }

        /** The whole number of a row that decides claim i: of the mean the sum, and so on. */
        private int figureOf(Row row, int i) {
            switch (kinds[i]) {
                case MEAN:
                    return row.sum;
                case SPREAD:
                case WHOLE_SPREAD:
                    return row.unevenness();
                case MIDDLE:
                    return row.middleTwice();
                case COUNT:
                    return row.howMany(marks[i]);
                case SHARE:
                    return row.howManyFrom(marks[i]);
                case LEAST:
                    return row.least;
                case GREATEST:
                    return row.greatest;
                default:
                    return row.commonest;
            }
        }
    }

    /** All rows of n marks up to TOP in their order, and which claims hold for each. */
    private static final class RowTable {
        final int[] numbers = new int[MOST_ROWS];
        final int[] held = new int[MOST_ROWS];
        final int[] holdTogether = new int[CLAIM_SETS];
        /** How many rows have 0, 1, .. 9 of mark 0, then of mark 1, and so on. */
        final int[] tally = new int[10 * MARKS];
        int size;

        void fill(int marks, int highest, Row row) {
            size = 0;
            row.begin(marks);
            boolean more = true;
            while (more && size < MOST_ROWS) {
                numbers[size] = row.number();
                size++;
                more = row.step(highest);
            }
        }

        void judge(ClaimText text, Row row) {
            for (int k = 0; k < size; k++) {
                row.take(numbers[k]);
                held[k] = text.heldBy(row);
            }
        }

        private boolean canBe(int k, int believed) {
            return (held[k] & believed) == believed;
        }

        int howMany(int believed) {
            int there = 0;
            for (int k = 0; k < size; k++) {
                if (canBe(k, believed)) {
                    there++;
                }
            }
            return there;
        }

        int rankedNumber(int believed, int i) {
            int ahead = 0;
            for (int k = 0; k < size; k++) {
                if (canBe(k, believed)) {
                    if (ahead == i) {
                        return numbers[k];
                    }
                    ahead++;
                }
            }
            return NONE;
        }

        long orders(int believed, int marks) {
            long orders = 0;
            for (int k = 0; k < size; k++) {
                if (canBe(k, believed)) {
                    orders += ordersOf(numbers[k], marks);
                }
            }
            return orders;
        }

        private static int ordersOf(int number, int marks) {
            int orders = marks < 0 || marks > MOST_N ? 0 : FACTORIALS[marks];
            for (int mark = 0; mark < MARKS; mark++) {
                orders /= FACTORIALS[Row.countIn(number, mark)];
            }
            return orders;
        }

        int outermost(int believed, int mark, boolean greatest) {
            int bound = NONE;
            for (int k = 0; k < size; k++) {
                if (canBe(k, believed)) {
                    int there = mark == NONE ? Row.sumIn(numbers[k]) : Row.countIn(numbers[k], mark);
                    if (bound == NONE || (greatest ? there > bound : there < bound)) {
                        bound = there;
                    }
                }
            }
            return bound;
        }

        int everHeld() {
            int ever = 0;
            for (int k = 0; k < size; k++) {
                ever |= held[k];
            }
            return ever;
        }

        /** The fewest are just those that some row breaks: no other set of so few leaves a row. */
        int fewestDoubts(int believed) {
            int best = believed;
            for (int k = 0; k < size; k++) {
                int broken = believed & ~held[k];
                if (isAhead(broken, best)) {
                    best = broken;
                }
            }
            return best;
        }

        int leastQuarrel(int believed) {
            findWhatHoldsTogether();
            int best = 0;
            for (int set = 1; set < CLAIM_SETS; set++) {
                boolean quarrels = (set & ~believed) == 0 && holdTogether[set] == 0;
                if (quarrels && (best == 0 || isAhead(set, best))) {
                    best = set;
                }
            }
            return best;
        }

        private static boolean isAhead(int set, int other) {
            int fewer = Integer.bitCount(set) - Integer.bitCount(other);
            return fewer < 0 || (fewer == 0 && set < other);
        }

        /** What a row holds, each part of it holds too: so each set hands itself on to those below. */
        private void findWhatHoldsTogether() {
            Arrays.fill(holdTogether, 0);
            for (int k = 0; k < size; k++) {
                holdTogether[held[k] & (CLAIM_SETS - 1)] = 1;
            }
            for (int i = 0; i < MOST_CLAIMS; i++) {
                for (int set = 0; set < CLAIM_SETS; set++) {
                    holdTogether[set & ~(1 << i)] |= holdTogether[set];
                }
            }
        }

        int bestQuestion(int believed) {
            if (howMany(believed) < 2) {
                return NONE;
            }
            tallyMarks(believed);
            int best = 0;
            for (int mark = 1; mark < MARKS; mark++) {
                if (mostLeft(mark) < mostLeft(best)) {
                    best = mark;
                }
            }
            return best;
        }

        private void tallyMarks(int believed) {
            Arrays.fill(tally, 0);
            for (int k = 0; k < size; k++) {
                if (canBe(k, believed)) {
                    int rest = Math.max(numbers[k], 0);
                    for (int mark = MARKS - 1; mark >= 0; mark--) {
                        tally[10 * mark + rest % 10]++;
                        rest /= 10;
                    }
                }
            }
        }

        private int mostLeft(int mark) {
            int most = 0;
            for (int there = 0; there < 10; there++) {
                most = Math.max(most, tally[10 * mark + there]);
            }
            return most;
        }

        int writeTo(Sheet sheet, int believed) {
            int written = 0;
            for (int k = 0; k < size && written < sheet.size; k++) {
                if (canBe(k, believed)) {
                    sheet.keep(written, numbers[k]);
                    written++;
                }
            }
            return written;
        }
    }

    /** A sheet keeps its room when it is lost or made anew, so that no call makes an array. */
    private static final class Sheet {
        final int[] items = new int[MOST_ITEMS];
        boolean lost = true;
        int form;
        int size;

        void begin(int newForm, int newSize) {
            Arrays.fill(items, 0);
            lost = false;
            form = newForm;
            size = Math.max(0, Math.min(newSize, MOST_ITEMS));
        }

        int item(int i) {
            return i < 0 || i >= size ? 0 : items[i];
        }

        void keep(int i, int v) {
            if (i >= 0 && i < size) {
                items[i] = form == BYTES ? (byte) v : form == SHORTS ? (short) v : v;
            }
        }

        boolean hasStretch(int from, int length) {
            return from >= 0 && length >= 0 && from <= size && length <= size - from;
        }

        boolean isWithin(int low, int high) {
            for (int i = 0; i < size; i++) {
                if (items[i] < low || items[i] > high) {
                    return false;
                }
            }
            return true;
        }

        int howManyEndIn(int figure) {
            int there = 0;
            for (int i = 0; i < size; i++) {
                if (Math.abs(items[i] % 10) == figure) {
                    there++;
                }
            }
            return there;
        }

        /** With figure 0: how many items are 0. */
        int howManyBeginWith(int figure) {
            int there = 0;
            for (int i = 0; i < size; i++) {
                if (firstFigure(items[i]) == figure) {
                    there++;
                }
            }
            return there;
        }

        private static int firstFigure(int v) {
            int rest = v;
            for (int figures = 1; figures < 10; figures++) {
                rest = rest > -10 && rest < 10 ? rest : rest / 10;
            }
            return Math.abs(rest);
        }
    }

    /** Chances as whole numbers: how many cases of all, so that nothing is rounded but the end. */
    private static final class Chance {
        final long[] rowsOf = new long[MOST_LAST_ITEMS + 1];

        /** That some figure of so many comes at least so often, in millionths. */
        int ofSomeFigure(int items, int often) {
            if (items <= 0 || items > MOST_LAST_ITEMS || often <= 0) {
                return MILLION;
            }
            long all = 1;
            for (int i = 0; i < items; i++) {
                all *= 10;
            }
            countRowsBelow(items, often);
            return (int) ((all - rowsOf[items]) * MILLION / all);
        }

        /** Rows of 0 .. items figures in which each figure comes less often: figure by figure. */
        private void countRowsBelow(int items, int often) {
            Arrays.fill(rowsOf, 0);
            rowsOf[0] = 1;
            for (int figure = 0; figure <= 9; figure++) {
                for (int length = items; length >= 0; length--) {
                    rowsOf[length] = rowsWithOneMore(length, often);
                }
            }
        }

        private long rowsWithOneMore(int length, int often) {
            long rows = 0;
            long places = 1;
            for (int times = 0; times <= length && times < often; times++) {
                rows += places * rowsOf[length - times];
                places = places * (length - times) / (times + 1);
            }
            return rows;
        }

        /** That a figure with such a share of 1000 comes at least so often of so many. */
        int ofFirstFigure(int items, int often, int share) {
            long cases = 0;
            long choices = 1;
            for (int times = 0; times <= items; times++) {
                if (times >= often) {
                    cases += choices * power(share, times) * power(1000 - share, items - times);
                }
                choices = choices * (items - times) / (times + 1);
            }
            // All cases are 1000 to the power of items; millionths are cases by all but two thousands.
            long millionths = cases * power(1000, 2 - items);
            return (int) (millionths / power(1000, items - 2));
        }

        /** 1 with an exponent below 0. */
        private static long power(int base, int exponent) {
            long power = 1;
            for (int i = 0; i < exponent && i <= MOST_FIRST_ITEMS; i++) {
                power *= base;
            }
            return Math.max(power, 1);
        }
    }

    /** The longest stretch of one sheet that stands in another with a step. */
    private static final class Stretch {
        /** How far it goes on from each item of the first sheet and one item of the second. */
        final int[] lengths = new int[MOST_ITEMS + 1];
        int length;
        int inSecond;
        int inFirst;
        long step;

        /** From the end to the beginning, since a stretch is one more than that which follows. */
        void find(Sheet one, Sheet two) {
            Arrays.fill(lengths, 0);
            length = 0;
            for (int j = two.size - 1; j >= 0; j--) {
                for (int i = 0; i < one.size; i++) {
                    boolean goesOn = j + 1 < two.size && i + 1 < one.size
                            && stepAt(one, i + 1, two, j + 1) == stepAt(one, i, two, j);
                    lengths[i] = goesOn ? lengths[i + 1] + 1 : 1;
                }
                takeLongest(one, two, j);
            }
        }

        private void takeLongest(Sheet one, Sheet two, int j) {
            int longest = 0;
            for (int i = 1; i < one.size; i++) {
                if (lengths[i] > lengths[longest]) {
                    longest = i;
                }
            }
            if (lengths[longest] >= length) {
                length = lengths[longest];
                inSecond = j;
                inFirst = longest;
                step = stepAt(one, longest, two, j);
            }
        }

        private static long stepAt(Sheet one, int i, Sheet two, int j) {
            return (long) two.item(j) - one.item(i);
        }

        long told(int what) {
            switch (what) {
                case 0:
                    return length;
                case 1:
                    return inSecond;
                case 2:
                    return inFirst;
                default:
                    return step;
            }
        }
    }

    /** Pairs of readings of the same thing, and how they differ. */
    private static final class Readings {
        long missAbove;
        long missBelow;
        long biasAbove;
        long biasBelow;
        int worst;

        void compare(Sheet sheet) {
            int pairs = sheet.size / 2;
            long squares = 0;
            long sum = 0;
            long most = NONE;
            for (int pair = 0; pair < pairs; pair++) {
                long differs = (long) sheet.item(2 * pair) - sheet.item(2 * pair + 1);
                sum += differs;
                squares += differs * differs;
                if (Math.abs(differs) > most) {
                    most = Math.abs(differs);
                    worst = pair;
                }
            }
            long missPart = commonPart(squares, 2L * pairs);
            missAbove = squares / missPart;
            missBelow = 2L * pairs / missPart;
            long biasPart = commonPart(Math.abs(sum), pairs);
            biasAbove = sum / biasPart;
            biasBelow = pairs / biasPart;
        }

        /** The greatest number that divides both; at least 1. The smaller is 120 at most, so it ends. */
        private static long commonPart(long above, long below) {
            long a = above;
            long b = below;
            for (int round = 0; round < MOST_READING && b != 0; round++) {
                long rest = a % b;
                a = b;
                b = rest;
            }
            return Math.max(a, 1);
        }

        long told(int what) {
            switch (what) {
                case 0:
                    return missAbove;
                case 1:
                    return missBelow;
                case 2:
                    return biasAbove;
                case 3:
                    return biasBelow;
                default:
                    return worst;
            }
        }
    }
}
