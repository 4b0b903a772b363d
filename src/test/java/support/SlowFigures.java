import java.math.BigDecimal;
import java.math.BigInteger;
import java.math.RoundingMode;
import java.util.ArrayList;
import java.util.Collections;
import java.util.List;
import java.util.regex.Matcher;
import java.util.regex.Pattern;

/**
 * The document once more, in the slowest and most literal way, with the Java library: rows as sorted
 * lists of marks, rounding by BigDecimal, claims by a pattern, sets by trying all, chances by trying
 * all rows. What it shares with the program is the document alone.
 */
final class SlowFigures {
    private static final Pattern PART = Pattern.compile(
            "([msvd])=(\\d{1,2})(?:\\.(\\d{1,2}))?([uet]?)"
            + "|(c)([0-6])=(\\d{1,2})"
            + "|(h)([0-6])=(\\d{1,3})%([uet]?)"
            + "|([lgo])=([0-6])");
    private static final Pattern TEXT = Pattern.compile(
            "(?:" + PART.pattern() + ")(?:;(?:" + PART.pattern() + ")){0,9}");

    private int n = 5;
    private int top = 6;
    private String text = "";
    private int believed;
    private int finding;
    private final int[][] items = new int[4][];
    private final int[] forms = new int[4];

    private record Told(char kind, int k, String digits, int behind, int rule) { }

    // ---- rows, claims

    int set(int what, int v) {
        if (what == 0 && v >= 1 && v <= 9) {
            int was = n;
            n = v;
            return was;
        }
        if (what == 1 && v >= 0 && v <= 6) {
            int was = top;
            top = v;
            return was;
        }
        return -2;
    }

    int type(int b) {
        if (b < 0 || b > 255) {
            return -2;
        }
        if (text.length() == 100) {
            return -4;
        }
        text += (char) b;
        believed = fault() == -1 ? (1 << told().size()) - 1 : 0;
        return text.length();
    }

    int wipe() {
        int was = text.length();
        text = "";
        believed = 0;
        return was;
    }

    private static boolean canGoOn(String start) {
        Matcher m = TEXT.matcher(start);
        return m.matches() || m.hitEnd();
    }

    int fault() {
        if (text.isEmpty() || TEXT.matcher(text).matches()) {
            return -1;
        }
        for (int i = 0; i < text.length(); i++) {
            if (!canGoOn(text.substring(0, i + 1))) {
                return i;
            }
        }
        return text.length();
    }

    private List<Told> told() {
        List<Told> all = new ArrayList<>();
        if (text.isEmpty()) {
            return all;
        }
        for (String part : text.split(";", -1)) {
            Matcher m = PART.matcher(part);
            if (!m.matches()) {
                throw new IllegalStateException(part);
            }
            if (m.group(1) != null) {
                String behind = m.group(3) == null ? "" : m.group(3);
                all.add(new Told(m.group(1).charAt(0), -1, m.group(2) + behind, behind.length(), rule(m.group(4))));
            } else if (m.group(5) != null) {
                all.add(new Told('c', Integer.parseInt(m.group(6)), m.group(7), 0, 0));
            } else if (m.group(8) != null) {
                all.add(new Told('h', Integer.parseInt(m.group(9)), m.group(10), 0, rule(m.group(11))));
            } else {
                all.add(new Told(m.group(12).charAt(0), Integer.parseInt(m.group(13)), "-1", 0, 0));
            }
        }
        return all;
    }

    private static int rule(String letter) {
        return letter.isEmpty() ? 0 : "uet".indexOf(letter);
    }

    int claims() {
        return fault() != -1 ? -3 : told().size();
    }

    int claim(int i, int what) {
        if (i < 0 || what < 0 || what > 4) {
            return -2;
        }
        if (fault() != -1) {
            return -3;
        }
        if (i >= told().size()) {
            return -2;
        }
        Told t = told().get(i);
        return new int[] {"msvdchlgo".indexOf(t.kind), t.k, Integer.parseInt(t.digits), t.behind, t.rule}[what];
    }

    int believe(int bits) {
        if (bits < 0) {
            return -2;
        }
        if (fault() != -1) {
            return -3;
        }
        if (bits >= 1 << told().size()) {
            return -2;
        }
        int was = believed;
        believed = bits;
        return was;
    }

    private static RoundingMode mode(int rule) {
        return rule == 0 ? RoundingMode.HALF_UP : rule == 1 ? RoundingMode.HALF_EVEN : RoundingMode.FLOOR;
    }

    private static boolean isRounded(Told t, int above, int below) {
        BigDecimal rounded = new BigDecimal(above).divide(new BigDecimal(below), t.behind, mode(t.rule));
        return rounded.unscaledValue().equals(new BigInteger(t.digits));
    }

    private static boolean isRoundedRoot(Told t, int above, int below) {
        BigInteger up = BigInteger.valueOf(above).multiply(BigInteger.valueOf(100).pow(t.behind)).shiftLeft(2);
        BigInteger down = BigInteger.valueOf(below);
        BigInteger halves = up.divide(down).sqrt();
        boolean exact = halves.multiply(halves).multiply(down).equals(up);
        BigInteger rounded = halves.shiftRight(1);
        boolean beyondHalf = halves.testBit(0) && !exact;
        boolean justHalf = halves.testBit(0) && exact;
        if (t.rule != 2 && (beyondHalf || (justHalf && (t.rule == 0 || rounded.testBit(0))))) {
            rounded = rounded.add(BigInteger.ONE);
        }
        return rounded.equals(new BigInteger(t.digits));
    }

    private static boolean holds(Told t, List<Integer> row) {
        int m = row.size();
        int sum = row.stream().mapToInt(x -> x).sum();
        int squares = row.stream().mapToInt(x -> x * x).sum();
        int uneven = m * squares - sum * sum;
        int best = 0;
        for (int k = 0; k <= 6; k++) {
            if (Collections.frequency(row, k) > Collections.frequency(row, best)) {
                best = k;
            }
        }
        switch (t.kind) {
            case 'm':
                return isRounded(t, sum, m);
            case 's':
                return m == 1 ? new BigInteger(t.digits).signum() == 0 : isRoundedRoot(t, uneven, m * (m - 1));
            case 'v':
                return isRoundedRoot(t, uneven, m * m);
            case 'd':
                return m % 2 == 1 ? isRounded(t, row.get(m / 2), 1)
                        : isRounded(t, row.get(m / 2 - 1) + row.get(m / 2), 2);
            case 'c':
                return Collections.frequency(row, t.k) == Integer.parseInt(t.digits);
            case 'h':
                return isRounded(t, 100 * (int) row.stream().filter(x -> x >= t.k).count(), m);
            case 'l':
                return row.get(0) == t.k;
            case 'g':
                return row.get(m - 1) == t.k;
            default:
                return best == t.k;
        }
    }

    private int held(List<Integer> row) {
        int bits = 0;
        List<Told> all = told();
        for (int i = 0; i < all.size(); i++) {
            if (holds(all.get(i), row)) {
                bits |= 1 << i;
            }
        }
        return bits;
    }

    int put(int row) {
        if (row < 0 || row > 9999999) {
            return -2;
        }
        String digits = String.format("%07d", row);
        List<Integer> marks = new ArrayList<>();
        for (int k = 0; k < 7; k++) {
            for (int c = digits.charAt(k) - '0'; c > 0; c--) {
                marks.add(k);
            }
        }
        if (marks.size() != n || marks.get(n - 1) > top) {
            return -2;
        }
        return fault() != -1 ? -3 : held(marks);
    }

    // ---- what can be

    private void allRows(List<Integer> start, List<List<Integer>> into) {
        if (start.size() == n) {
            into.add(List.copyOf(start));
            return;
        }
        for (int k = start.isEmpty() ? 0 : start.get(start.size() - 1); k <= top; k++) {
            start.add(k);
            allRows(start, into);
            start.remove(start.size() - 1);
        }
    }

    private static int number(List<Integer> row) {
        StringBuilder digits = new StringBuilder();
        for (int k = 0; k < 7; k++) {
            digits.append(Collections.frequency(row, k));
        }
        return Integer.parseInt(digits.toString());
    }

    private List<List<Integer>> everyRow() {
        List<List<Integer>> all = new ArrayList<>();
        allRows(new ArrayList<>(), all);
        all.sort((a, b) -> Integer.compare(number(b), number(a)));
        return all;
    }

    private String keptFor = "";
    private List<List<Integer>> keptRows;
    private List<Integer> keptHeld;

    private void keep() {
        String now = n + " " + top + " " + text;
        if (!now.equals(keptFor)) {
            keptFor = now;
            keptRows = everyRow();
            keptHeld = new ArrayList<>();
            for (List<Integer> row : keptRows) {
                keptHeld.add(held(row));
            }
        }
    }

    private List<List<Integer>> canBe(int bits) {
        keep();
        List<List<Integer>> some = new ArrayList<>();
        for (int i = 0; i < keptRows.size(); i++) {
            if ((keptHeld.get(i) & bits) == bits) {
                some.add(keptRows.get(i));
            }
        }
        return some;
    }

    private boolean anyCanBe(int bits) {
        keep();
        for (int held : keptHeld) {
            if ((held & bits) == bits) {
                return true;
            }
        }
        return false;
    }

    int rows() {
        return everyRow().size();
    }

    int can() {
        return fault() != -1 ? -3 : canBe(believed).size();
    }

    int ranked(int i) {
        if (i < 0) {
            return -2;
        }
        if (fault() != -1) {
            return -3;
        }
        List<List<Integer>> some = canBe(believed);
        return i < some.size() ? number(some.get(i)) : -1;
    }

    private static long factorial(int m) {
        return m == 0 ? 1 : m * factorial(m - 1);
    }

    long ways() {
        if (fault() != -1) {
            return Long.MIN_VALUE + 3;
        }
        long ways = 0;
        for (List<Integer> row : canBe(believed)) {
            long below = 1;
            for (int k = 0; k < 7; k++) {
                below *= factorial(Collections.frequency(row, k));
            }
            ways += factorial(n) / below;
        }
        return ways;
    }

    int bound(int mark, int end) {
        if (mark < -1 || mark > 6 || end < 0 || end > 1) {
            return -2;
        }
        if (fault() != -1) {
            return -3;
        }
        List<Integer> values = new ArrayList<>();
        for (List<Integer> row : canBe(believed)) {
            values.add(mark == -1 ? row.stream().mapToInt(x -> x).sum() : Collections.frequency(row, mark));
        }
        if (values.isEmpty()) {
            return -1;
        }
        return end == 0 ? Collections.min(values) : Collections.max(values);
    }

    int alone() {
        if (fault() != -1) {
            return -3;
        }
        int bits = 0;
        for (int i = 0; i < told().size(); i++) {
            if (!anyCanBe(1 << i)) {
                bits |= 1 << i;
            }
        }
        return bits;
    }

    private interface Test {
        boolean fits(int set);
    }

    private int leastSet(Test test) {
        for (int many = 0; many <= 10; many++) {
            for (int set = 0; set < 1024; set++) {
                if ((set & ~believed) == 0 && Integer.bitCount(set) == many && test.fits(set)) {
                    return set;
                }
            }
        }
        return 0;
    }

    int fewest() {
        return fault() != -1 ? -3 : leastSet(set -> anyCanBe(believed & ~set));
    }

    int quarrel() {
        return fault() != -1 ? -3 : leastSet(set -> !anyCanBe(set));
    }

    int ask() {
        if (fault() != -1) {
            return -3;
        }
        List<List<Integer>> some = canBe(believed);
        if (some.size() < 2) {
            return -1;
        }
        int best = -1;
        long bestLeft = Long.MAX_VALUE;
        for (int k = 0; k <= 6; k++) {
            long most = 0;
            for (int there = 0; there <= 9; there++) {
                int mark = k;
                int told = there;
                most = Math.max(most, some.stream().filter(r -> Collections.frequency(r, mark) == told).count());
            }
            if (most < bestLeft) {
                bestLeft = most;
                best = k;
            }
        }
        return best;
    }

    // ---- shares, figures

    private int found(int number) {
        finding = number;
        return -10 - number;
    }

    private boolean areHundredths(int s) {
        for (int item : items[s]) {
            if (item < 0 || item > 100) {
                return false;
            }
        }
        return true;
    }

    private boolean canBeOf(int s, int rule, int total) {
        boolean[] sums = new boolean[total + 1];
        sums[0] = true;
        for (int item : items[s]) {
            boolean[] next = new boolean[total + 1];
            for (int part = 0; part <= total; part++) {
                BigDecimal share = new BigDecimal(100 * part).divide(new BigDecimal(total), 0, mode(rule));
                if (share.intValueExact() == item) {
                    for (int sum = 0; sum + part <= total; sum++) {
                        next[sum + part] |= sums[sum];
                    }
                }
            }
            sums = next;
        }
        return sums[total];
    }

    int shares(int s, int rule, int what) {
        if (s < 0 || s > 3 || rule < 0 || rule > 2 || what < 0 || what > 1) {
            return -2;
        }
        if (items[s] == null) {
            return found(1);
        }
        if (!areHundredths(s)) {
            return -3;
        }
        int many = 0;
        for (int total = 1; total <= 300; total++) {
            if (canBeOf(s, rule, total)) {
                if (what == 1) {
                    return total;
                }
                many++;
            }
        }
        return what == 1 ? -1 : many;
    }

    int share(int s, int rule, int total) {
        if (s < 0 || s > 3 || rule < 0 || rule > 2 || total < 1 || total > 300) {
            return -2;
        }
        if (items[s] == null) {
            return found(1);
        }
        return !areHundredths(s) ? -3 : canBeOf(s, rule, total) ? 1 : 0;
    }

    private static String amount(int item) {
        return Long.toString(Math.abs((long) item));
    }

    private int ending(int s, int figure) {
        int many = 0;
        for (int item : items[s]) {
            many += amount(item).endsWith("" + figure) ? 1 : 0;
        }
        return many;
    }

    private int beginning(int s, int figure) {
        int many = 0;
        for (int item : items[s]) {
            many += amount(item).startsWith("" + figure) ? 1 : 0;
        }
        return many;
    }

    int last(int s, int figure) {
        if (s < 0 || s > 3 || figure < 0 || figure > 9) {
            return -2;
        }
        return items[s] == null ? found(1) : ending(s, figure);
    }

    /** Over all ways to share out the items among ten figures: how many rows have a figure so often. */
    private static BigInteger rowsWith(int figuresLeft, int itemsLeft, boolean already, int often) {
        if (figuresLeft == 0) {
            return itemsLeft == 0 && already ? BigInteger.ONE : BigInteger.ZERO;
        }
        BigInteger sum = BigInteger.ZERO;
        for (int c = 0; c <= itemsLeft; c++) {
            BigInteger choose = BigInteger.valueOf(factorial(itemsLeft) / factorial(c) / factorial(itemsLeft - c));
            sum = sum.add(choose.multiply(rowsWith(figuresLeft - 1, itemsLeft - c, already || c >= often, often)));
        }
        return sum;
    }

    private static final java.util.Map<Integer, Integer> CHANCES = new java.util.HashMap<>();

    int lastChance(int s) {
        if (s < 0 || s > 3) {
            return -2;
        }
        if (items[s] == null) {
            return found(1);
        }
        int m = items[s].length;
        if (m > 12) {
            return -4;
        }
        int most = 0;
        for (int figure = 0; figure <= 9; figure++) {
            most = Math.max(most, ending(s, figure));
        }
        int often = most;
        return CHANCES.computeIfAbsent(100 * m + most, key -> rowsWith(10, m, false, often)
                .multiply(BigInteger.valueOf(1000000)).divide(BigInteger.TEN.pow(m)).intValueExact());
    }

    int first(int s, int figure) {
        if (s < 0 || s > 3 || figure < 1 || figure > 9) {
            return -2;
        }
        return items[s] == null ? found(1) : beginning(s, figure);
    }

    int firstChance(int s, int figure) {
        if (s < 0 || s > 3 || figure < 1 || figure > 9) {
            return -2;
        }
        if (items[s] == null) {
            return found(1);
        }
        int m = items[s].length - beginning(s, 0);
        if (m > 6) {
            return -4;
        }
        int share = new int[] {301, 176, 125, 97, 79, 67, 58, 51, 46}[figure - 1];
        BigInteger cases = BigInteger.ZERO;
        for (int which = 0; which < 1 << m; which++) {
            int there = Integer.bitCount(which);
            if (there >= beginning(s, figure)) {
                cases = cases.add(BigInteger.valueOf(share).pow(there)
                        .multiply(BigInteger.valueOf(1000 - share).pow(m - there)));
            }
        }
        return cases.multiply(BigInteger.valueOf(1000000)).divide(BigInteger.valueOf(1000).pow(m)).intValueExact();
    }

    // ---- copies, twice

    long copies(int s, int t, int what) {
        if (s < 0 || s > 3 || t < 0 || t > 3 || what < 0 || what > 3) {
            return Long.MIN_VALUE + 2;
        }
        if (items[s] == null || items[t] == null) {
            found(1);
            return Long.MIN_VALUE + 11;
        }
        long[] best = {0, 0, 0, 0};
        for (int j = 0; j < items[t].length; j++) {
            for (int i = 0; i < items[s].length; i++) {
                long step = (long) items[t][j] - items[s][i];
                int length = 0;
                while (j + length < items[t].length && i + length < items[s].length
                        && (long) items[t][j + length] - items[s][i + length] == step) {
                    length++;
                }
                if (length > best[0]) {
                    best = new long[] {length, j, i, step};
                }
            }
        }
        return best[0] == 0 ? Long.MIN_VALUE + 3 : best[what];
    }

    long twice(int s, int what) {
        if (s < 0 || s > 3 || what < 0 || what > 4) {
            return Long.MIN_VALUE + 2;
        }
        if (items[s] == null) {
            found(1);
            return Long.MIN_VALUE + 11;
        }
        int m = items[s].length;
        for (int item : items[s]) {
            if (item < -10000 || item > 10000) {
                return Long.MIN_VALUE + 3;
            }
        }
        if (m == 0 || m % 2 != 0) {
            return Long.MIN_VALUE + 3;
        }
        BigInteger squares = BigInteger.ZERO;
        BigInteger sum = BigInteger.ZERO;
        int worst = 0;
        for (int p = 0; p < m / 2; p++) {
            BigInteger d = BigInteger.valueOf(items[s][2 * p]).subtract(BigInteger.valueOf(items[s][2 * p + 1]));
            squares = squares.add(d.pow(2));
            sum = sum.add(d);
            if (d.intValue() * d.intValue()
                    > (int) Math.pow(items[s][2 * worst] - items[s][2 * worst + 1], 2)) {
                worst = p;
            }
        }
        BigInteger above = what < 2 ? squares : sum;
        BigInteger below = BigInteger.valueOf(what < 2 ? m : m / 2);
        BigInteger part = above.gcd(below);
        if (what == 4) {
            return worst;
        }
        return (what % 2 == 0 ? above : below).divide(part).longValueExact();
    }

    // ---- sheets

    int sheet(int s, int form, int m) {
        if (s < 0 || s > 3 || form < 0 || form > 2 || m > 60) {
            return -2;
        }
        if (m < 0) {
            return found(5);
        }
        items[s] = new int[m];
        forms[s] = form;
        return m;
    }

    int lose(int s) {
        if (s < 0 || s > 3) {
            return -2;
        }
        if (items[s] == null) {
            return found(1);
        }
        int had = items[s].length;
        items[s] = null;
        return had;
    }

    private int itemFinding(int s, int form, int i) {
        if (items[s] == null) {
            return 1;
        }
        if (forms[s] != form) {
            return 3;
        }
        return i < 0 || i >= items[s].length ? 2 : 0;
    }

    private int cut(int s, int v) {
        return forms[s] == 0 ? (v << 24) >> 24 : forms[s] == 1 ? (v << 16) >> 16 : v;
    }

    int lay(int s, int form, int i, int v) {
        if (s < 0 || s > 3 || form < 0 || form > 2) {
            return -2;
        }
        int f = itemFinding(s, form, i);
        if (f != 0) {
            return found(f);
        }
        items[s][i] = cut(s, v);
        return 1;
    }

    int get(int s, int form, int i) {
        if (s < 0 || s > 3 || form < 0 || form > 2) {
            return Integer.MIN_VALUE;
        }
        int f = itemFinding(s, form, i);
        if (f != 0) {
            found(f);
            return Integer.MIN_VALUE;
        }
        return items[s][i];
    }

    int copy(int s, int i, int t, int j, int m) {
        if (s < 0 || s > 3 || t < 0 || t > 3) {
            return -2;
        }
        if (items[s] == null || items[t] == null) {
            return found(1);
        }
        if (forms[s] != forms[t]) {
            return found(4);
        }
        if (i < 0 || j < 0 || m < 0 || (long) i + m > items[s].length || (long) j + m > items[t].length) {
            return found(2);
        }
        int[] was = items[s].clone();
        for (int k = 0; k < m; k++) {
            items[t][j + k] = was[i + k];
        }
        return 1;
    }

    int write(int s) {
        if (s < 0 || s > 3) {
            return -2;
        }
        if (items[s] == null) {
            return found(1);
        }
        if (fault() != -1) {
            return -3;
        }
        List<List<Integer>> some = canBe(believed);
        int many = Math.min(some.size(), items[s].length);
        for (int k = 0; k < many; k++) {
            items[s][k] = cut(s, number(some.get(k)));
        }
        return many;
    }

    int count(int what) {
        int sheetsThere = 0;
        for (int[] sheet : items) {
            sheetsThere += sheet == null ? 0 : 1;
        }
        switch (what) {
            case 0: return n;
            case 1: return top;
            case 2: return text.length();
            case 3: return fault() != -1 ? 0 : believed;
            case 4: return sheetsThere;
            case 8: return finding;
            default: return -2;
        }
    }

    long digest() {
        List<Integer> told = new ArrayList<>();
        for (int what = 0; what <= 4; what++) {
            told.add(count(what));
        }
        told.add(fault());
        told.add(claims());
        for (int i = 0; i < claims(); i++) {
            for (int what = 0; what <= 4; what++) {
                told.add(claim(i, what));
            }
        }
        told.add(can());
        told.add(alone());
        told.add(fewest());
        told.add(ask());
        BigInteger h = BigInteger.valueOf(17);
        for (int x : told) {
            h = h.multiply(BigInteger.valueOf(31)).add(BigInteger.valueOf(x));
        }
        return h.longValue();
    }
}
