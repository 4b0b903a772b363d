import java.util.Random;

/** Many runs of calls, the same for the program and for the slow model; each answer must be alike. */
public final class ModelTest {
    private static final Check CHECK = new Check("ModelTest");
    private static ToldFigures fast;
    private static SlowFigures slow;
    private static StringBuilder log;
    private static Random random;

    public static void main(String[] args) {
        for (int seed = 1; seed <= 160; seed++) {
            begin(seed);
            for (int i = 0; i < 40; i++) {
                claimsStep();
            }
            same("digest()", fast.digest(), slow.digest());
        }
        for (int seed = 1; seed <= 600; seed++) {
            begin(1000 + seed);
            for (int i = 0; i < 120; i++) {
                sheetStep();
            }
            same("digest()", fast.digest(), slow.digest());
        }
        chancesOfEveryShape();
        CHECK.end();
    }

    private static void begin(int seed) {
        random = new Random(seed);
        fast = new ToldFigures();
        slow = new SlowFigures();
        log = new StringBuilder("seed " + seed + ":");
    }

    private static void same(String call, long got, long want) {
        log.append(' ').append(call);
        CHECK.due(got == want ? call : log.toString(), got, want);
    }

    private static int upTo(int most) {
        return random.nextInt(most + 1);
    }

    // ---- rows, claims, what can be

    private static void claimsStep() {
        int kind = upTo(11);
        if (kind <= 1) {
            wipe();
            typeAll(someText(1 + upTo(9)));
        } else if (kind == 2) {
            wipe();
            typeAll(textOfARow(1 + upTo(7)));
        } else if (kind == 3) {
            typeAll(";" + somePart());
        } else if (kind == 4) {
            typeAll("" + "msvdchlgo=;.%uet0123456789x".charAt(upTo(26)));
        } else if (kind == 5) {
            int what = upTo(4) == 0 ? upTo(3) - 1 : upTo(1);
            int v = upTo(11) - 1;
            same("set(" + what + ", " + v + ")", fast.set(what, v), slow.set(what, v));
        } else if (kind <= 7) {
            int claims = slow.claims();
            int bits = claims > 0 && upTo(5) > 0 ? upTo((1 << claims) - 1) : upTo(3000) - 100;
            same("believe(" + bits + ")", fast.believe(bits), slow.believe(bits));
        }
        askClaims();
    }

    private static void wipe() {
        same("wipe()", fast.wipe(), slow.wipe());
    }

    private static void typeAll(String text) {
        for (char b : text.toCharArray()) {
            same("type('" + b + "')", fast.type(b), slow.type(b));
        }
    }

    private static String someText(int parts) {
        StringBuilder text = new StringBuilder(somePart());
        for (int i = 1; i < parts; i++) {
            text.append(upTo(60) == 0 ? "," : ";").append(somePart());
        }
        return text.toString();
    }

    private static String somePart() {
        String rule = new String[] {"", "u", "e", "t"}[upTo(3)];
        int wide = upTo(40) == 0 ? 99 : 6;
        String v = upTo(wide) + new String[] {"", "." + upTo(9), "." + upTo(9) + upTo(9)}[upTo(2)];
        int k = upTo(60) == 0 ? upTo(9) : upTo(6);
        switch (upTo(9)) {
            case 0: case 1: return "m=" + v + rule;
            case 2: return "s=" + v + rule;
            case 3: return "v=" + v + rule;
            case 4: return "d=" + upTo(6) + new String[] {"", ".5", ".0", ".50"}[upTo(3)] + rule;
            case 5: return "c" + k + "=" + (upTo(30) == 0 ? upTo(120) : upTo(4));
            case 6: return "h" + k + "=" + new int[] {0, 13, 12, 50, 67, 66, 33, 100, 20, 80, upTo(200)}[upTo(10)] + "%" + rule;
            case 7: return "l=" + k;
            case 8: return "g=" + k;
            default: return "o=" + k;
        }
    }

    /** Claims that one row makes true, so that some rows can be. */
    private static String textOfARow(int parts) {
        int n = slow.count(0);
        int[] row = random.ints(n, 0, slow.count(1) + 1).sorted().toArray();
        double sum = 0;
        double squares = 0;
        for (int x : row) {
            sum += x;
            squares += x * x;
        }
        double whole = Math.sqrt(Math.max(0, squares / n - sum / n * sum / n));
        double spread = n == 1 ? 0 : Math.sqrt(Math.max(0, (squares - sum * sum / n) / (n - 1)));
        double middle = (row[(n - 1) / 2] + row[n / 2]) / 2.0;
        StringBuilder text = new StringBuilder();
        for (int i = 0; i < parts; i++) {
            text.append(i == 0 ? "" : ";");
            int k = upTo(6);
            long there = java.util.Arrays.stream(row).filter(x -> x == k).count();
            switch (upTo(6)) {
                case 0: text.append("m=").append(String.format("%." + upTo(2) + "f", sum / n)); break;
                case 1: text.append("s=").append(String.format("%." + upTo(2) + "f", spread)); break;
                case 2: text.append("v=").append(String.format("%." + upTo(2) + "f", whole)); break;
                case 3: text.append("d=").append(String.format("%." + upTo(2) + "f", middle)); break;
                case 4: text.append("c").append(k).append("=").append(there); break;
                case 5: text.append("l=").append(row[0]); break;
                default: text.append("g=").append(row[n - 1]); break;
            }
        }
        return text.toString();
    }

    private static void askClaims() {
        same("fault()", fast.fault(), slow.fault());
        same("claims()", fast.claims(), slow.claims());
        int i = upTo(11) - 1;
        int what = upTo(6) - 1;
        same("claim(" + i + ", " + what + ")", fast.claim(i, what), slow.claim(i, what));
        same("can()", fast.can(), slow.can());
        int rank = upTo(3) == 0 ? upTo(600) - 2 : upTo(20);
        same("ranked(" + rank + ")", fast.ranked(rank), slow.ranked(rank));
        same("ways()", fast.ways(), slow.ways());
        int mark = upTo(9) - 2;
        int end = upTo(10) == 0 ? upTo(3) - 1 : upTo(1);
        same("bound(" + mark + ", " + end + ")", fast.bound(mark, end), slow.bound(mark, end));
        same("alone()", fast.alone(), slow.alone());
        same("fewest()", fast.fewest(), slow.fewest());
        same("quarrel()", fast.quarrel(), slow.quarrel());
        same("ask()", fast.ask(), slow.ask());
        same("rows()", fast.rows(), slow.rows());
        int row = someRow();
        same("put(" + row + ")", fast.put(row), slow.put(row));
        same("count(3)", fast.count(3), slow.count(3));
    }

    private static int someRow() {
        int row = 0;
        int kinds = upTo(8) == 0 ? 6 : slow.count(1);
        int marks = slow.count(0) + (upTo(8) == 0 ? upTo(2) - 1 : 0);
        for (int i = 0; i < marks; i++) {
            row += (int) Math.pow(10, 6 - upTo(kinds));
        }
        return upTo(30) == 0 ? random.nextInt() : row;
    }

    // ---- sheets

    private static int someSheet() {
        return upTo(25) == 0 ? upTo(6) - 2 : upTo(3);
    }

    private static int someForm() {
        return upTo(25) == 0 ? upTo(5) - 2 : upTo(2);
    }

    private static void sheetStep() {
        int s = someSheet();
        int t = someSheet();
        switch (upTo(12)) {
            case 0: makeSheet(s); break;
            case 1: if (upTo(3) == 0) { same("lose(" + s + ")", fast.lose(s), slow.lose(s)); } break;
            case 2: case 3: laySome(s); break;
            case 4: get(s); break;
            case 5: copySome(s, t); break;
            case 6: writeSome(s); break;
            case 7: sharesOf(s); break;
            case 8: case 9: figuresOf(s); break;
            case 10: copiesOf(s, t); break;
            case 11: twiceOf(s); break;
            default: countSome(); break;
        }
    }

    private static void makeSheet(int s) {
        int form = someForm();
        int n = upTo(3) == 0 ? upTo(64) - 2 : upTo(8);
        same("sheet(" + s + ", " + form + ", " + n + ")", fast.sheet(s, form, n), slow.sheet(s, form, n));
    }

    private static void laySome(int s) {
        int form = Math.floorMod(s, 4);
        for (int f = 0; f <= 2; f++) {
            if (slow.count(4) > 0 && slow.get(s, f, 0) != Integer.MIN_VALUE) {
                form = f;
            }
        }
        // The model was asked alone: its latest finding may differ now, so both are led to one.
        same("lose(9)", fast.lose(9), slow.lose(9));
        same("sheet(0, 0, -1)", fast.sheet(0, 0, -1), slow.sheet(0, 0, -1));
        int wide = upTo(4);
        for (int i = 0; i < upTo(10); i++) {
            int v = wide == 0 ? upTo(100) : wide == 1 ? upTo(30000) - 15000 : wide == 2 ? random.nextInt()
                    : wide == 3 ? upTo(3) : 10 * upTo(10);
            int at = upTo(15) == 0 ? upTo(70) - 5 : upTo(5);
            same("lay(" + s + ", " + form + ", " + at + ", " + v + ")", fast.lay(s, form, at, v), slow.lay(s, form, at, v));
        }
    }

    private static void get(int s) {
        int form = someForm();
        int i = upTo(10) - 1;
        same("get(" + s + ", " + form + ", " + i + ")", fast.get(s, form, i), slow.get(s, form, i));
        same("count(8)", fast.count(8), slow.count(8));
    }

    private static void copySome(int s, int t) {
        int i = upTo(6) - 1;
        int j = upTo(6) - 1;
        int n = upTo(20) == 0 ? random.nextInt() : upTo(6) - 1;
        same("copy(" + s + ", " + i + ", " + t + ", " + j + ", " + n + ")", fast.copy(s, i, t, j, n), slow.copy(s, i, t, j, n));
        same("count(8)", fast.count(8), slow.count(8));
    }

    private static void writeSome(int s) {
        if (upTo(2) == 0) {
            wipe();
            typeAll(somePart());
        }
        same("write(" + s + ")", fast.write(s), slow.write(s));
        for (int i = 0; i < 3; i++) {
            get(s);
        }
    }

    private static void sharesOf(int s) {
        int rule = upTo(20) == 0 ? upTo(5) - 1 : upTo(2);
        int n = upTo(310) - 5;
        same("share(" + s + ", " + rule + ", " + n + ")", fast.share(s, rule, n), slow.share(s, rule, n));
        if (upTo(3) == 0) {
            wholeOfShares(s);
            int what = upTo(20) == 0 ? upTo(4) - 1 : upTo(1);
            same("shares(" + s + ", " + rule + ", " + what + ")", fast.shares(s, rule, what), slow.shares(s, rule, what));
            same("shares(" + s + ", " + rule + ", 1)", fast.shares(s, rule, 1), slow.shares(s, rule, 1));
        }
    }

    /** Lays shares of one whole, so that some numbers can be. */
    private static void wholeOfShares(int s) {
        int parts = 1 + upTo(4);
        int total = 1 + upTo(60);
        same("sheet(" + s + ", 1, " + parts + ")", fast.sheet(s, 1, parts), slow.sheet(s, 1, parts));
        int left = total;
        for (int i = 0; i < parts; i++) {
            int part = i == parts - 1 ? left : upTo(left);
            left -= part;
            int v = Math.round(100f * part / total);
            same("lay(" + s + ", 1, " + i + ", " + v + ")", fast.lay(s, 1, i, v), slow.lay(s, 1, i, v));
        }
    }

    private static void figuresOf(int s) {
        int figure = upTo(12) - 1;
        same("last(" + s + ", " + figure + ")", fast.last(s, figure), slow.last(s, figure));
        same("first(" + s + ", " + figure + ")", fast.first(s, figure), slow.first(s, figure));
        same("lastChance(" + s + ")", fast.lastChance(s), slow.lastChance(s));
        same("firstChance(" + s + ", " + figure + ")", fast.firstChance(s, figure), slow.firstChance(s, figure));
    }

    private static void copiesOf(int s, int t) {
        for (int what = -1; what <= 4; what++) {
            same("copies(" + s + ", " + t + ", " + what + ")", fast.copies(s, t, what), slow.copies(s, t, what));
        }
    }

    private static void twiceOf(int s) {
        for (int what = -1; what <= 5; what++) {
            same("twice(" + s + ", " + what + ")", fast.twice(s, what), slow.twice(s, what));
        }
    }

    private static void countSome() {
        for (int what = -1; what <= 9; what++) {
            same("count(" + what + ")", fast.count(what), slow.count(what));
        }
    }

    /** Every number of items with every number of like ones. */
    private static void chancesOfEveryShape() {
        begin(0);
        for (int items = 0; items <= 12; items++) {
            for (int like = 0; like <= items; like++) {
                same("sheet(0, 2, " + items + ")", fast.sheet(0, 2, items), slow.sheet(0, 2, items));
                for (int i = like; i < items; i++) {
                    int v = 1 + i % 9 + 10 * (i % 3);
                    same("lay(0, 2, " + i + ", " + v + ")", fast.lay(0, 2, i, v), slow.lay(0, 2, i, v));
                }
                same("lastChance(0)", fast.lastChance(0), slow.lastChance(0));
                for (int figure = 1; figure <= 9; figure++) {
                    same("firstChance(0, " + figure + ")", fast.firstChance(0, figure), slow.firstChance(0, figure));
                }
            }
        }
    }
}
