import java.util.ArrayList;
import java.util.List;

/**
 * Every refusal of every call: the first number that is refused on each side, the refusal that comes
 * first where two fit, and what the refused call leaves as it was. For the last, each call is made on
 * one of two like objects, which must answer alike to everything afterwards.
 */
public final class RefusalsTest {
    private static final int NONE = -1, BAD = -2, NOT = -3, FULL = -4;
    private static final int NULL = -11, INDEX = -12, CAST = -13, STORE = -14, SIZE = -15;
    private static final int LEAST = Integer.MIN_VALUE, GREATEST = Integer.MAX_VALUE;
    private static final int[] NO_SHEETS = {-1, 4, LEAST, GREATEST};
    private static final int[] NO_FORMS = {-1, 3, LEAST, GREATEST};
    private static final Check CHECK = new Check("RefusalsTest");

    private interface Act {
        long on(ToldFigures x);
    }

    private interface Maker {
        ToldFigures make();
    }

    public static void main(String[] args) {
        twinsAreTold();
        set();
        type();
        claims();
        claim();
        believe();
        put();
        whatCanBeWithAFault();
        ranked();
        bound();
        shares();
        share();
        last();
        lastChance();
        first();
        firstChance();
        copies();
        twice();
        sheet();
        lose();
        lay();
        get();
        copy();
        copyBeyond();
        write();
        count();
        digest();
        callsThatOnlyAsk();
        CHECK.end();
    }

    // ---- objects that calls are refused on

    /** No FAULT, three claims of which two are BELIEVED, sheets of each sort, and a latest finding. */
    private static ToldFigures stage() {
        ToldFigures x = new ToldFigures();
        x.set(0, 4);
        x.set(1, 5);
        typeInto(x, "m=2.5;c0=1;l=0");
        x.believe(5);
        layOn(x, 0, 0, 33, 33, 34);
        layOn(x, 1, 2, 7, 20000, -3, 101);
        x.sheet(2, 2, 0);
        x.copy(0, 0, 1, 0, 1);
        return x;
    }

    private static ToldFigures faulty() {
        ToldFigures x = stage();
        x.type(';');
        return x;
    }

    private static ToldFigures full() {
        ToldFigures x = stage();
        while (x.count(2) < 100) {
            x.type('9');
        }
        return x;
    }

    /** As on the stage, but the latest finding is SIZE. */
    private static ToldFigures sized() {
        ToldFigures x = stage();
        x.sheet(0, 0, -1);
        return x;
    }

    private static ToldFigures impossible() {
        ToldFigures x = stage();
        typeInto(x, ";c1=9");
        return x;
    }

    private static void typeInto(ToldFigures x, String text) {
        for (char b : text.toCharArray()) {
            x.type(b);
        }
    }

    private static void layOn(ToldFigures x, int s, int form, int... items) {
        x.sheet(s, form, items.length);
        for (int i = 0; i < items.length; i++) {
            x.lay(s, form, i, items[i]);
        }
    }

    /** The stage with sheet 3 of ints. */
    private static Maker withInts(int... items) {
        return () -> {
            ToldFigures x = stage();
            layOn(x, 3, 2, items);
            return x;
        };
    }

    // ---- what can be seen of an object

    private static List<Long> everything(ToldFigures x) {
        List<Long> told = new ArrayList<>();
        for (int what = 0; what <= 4; what++) {
            told.add((long) x.count(what));
        }
        told.add((long) x.fault());
        told.add((long) x.claims());
        for (int i = 0; i < 10; i++) {
            for (int what = 0; what <= 4; what++) {
                told.add((long) x.claim(i, what));
            }
        }
        told.add((long) x.put(2000200));
        told.add((long) x.put(1111000));
        tellRows(x, told);
        tellSheets(x, told);
        told.add(x.digest());
        return told;
    }

    private static void tellRows(ToldFigures x, List<Long> told) {
        told.add((long) x.rows());
        told.add((long) x.can());
        for (int i = 0; i < 4; i++) {
            told.add((long) x.ranked(i));
        }
        told.add(x.ways());
        for (int mark = NONE; mark <= 6; mark++) {
            told.add((long) x.bound(mark, 0));
            told.add((long) x.bound(mark, 1));
        }
        told.add((long) x.alone());
        told.add((long) x.fewest());
        told.add((long) x.quarrel());
        told.add((long) x.ask());
    }

    /**
     * The latest finding is told only where a get has just made one, since a refused call may have left
     * another. The sheets are lost at the end, since that tells how many items they had.
     */
    private static void tellSheets(ToldFigures x, List<Long> told) {
        for (int s = 0; s < 4; s++) {
            for (int form = 0; form <= 2; form++) {
                for (int i = 0; i <= 4; i++) {
                    int item = x.get(s, form, i);
                    told.add(item == LEAST ? x.count(8) * (long) LEAST : item);
                }
            }
        }
        for (int s = 0; s < 4; s++) {
            told.add((long) x.lose(s));
        }
    }

    private static void sees(String change, Act act) {
        ToldFigures x = stage();
        act.on(x);
        CHECK.due("twins tell " + change, !everything(x).equals(everything(stage())));
    }

    /** Each change is seen: otherwise the tests below would prove nothing. */
    private static void twinsAreTold() {
        CHECK.due("like objects are alike", everything(stage()).equals(everything(stage())));
        sees("n", x -> x.set(0, 5));
        sees("TOP", x -> x.set(1, 4));
        sees("a byte", x -> x.type('x'));
        sees("a wipe", x -> x.wipe());
        sees("BELIEVED", x -> x.believe(7));
        sees("a new sheet", x -> x.sheet(3, 0, 0));
        sees("a longer sheet", x -> x.sheet(2, 2, 1));
        sees("another form", x -> x.sheet(2, 1, 0));
        sees("a lost sheet", x -> x.lose(2));
        sees("an item", x -> x.lay(0, 0, 2, 35));
        sees("a copy", x -> x.copy(1, 0, 1, 1, 1));
        sees("a written row", x -> x.write(1));
    }

    // ---- refusals

    private static void refused(String call, Maker maker, Act act, long want, int finding) {
        ToldFigures x = maker.make();
        ToldFigures twin = maker.make();
        int due = finding == 0 ? twin.count(8) : finding;
        CHECK.due(call, act.on(x), want);
        CHECK.due(call + " and count(8)", x.count(8), due);
        CHECK.due(call + " changes nothing", everything(x).equals(everything(twin)));
    }

    private static void refused(String call, Maker maker, Act act, int want) {
        refused(call, maker, act, want, want <= NULL && want >= SIZE ? -10 - want : 0);
    }

    private static void refusedLong(String call, Maker maker, Act act, int want) {
        refused(call, maker, act, Long.MIN_VALUE - want, want <= NULL && want >= SIZE ? -10 - want : 0);
    }

    private static void refusedGet(String call, Maker maker, Act act, int want) {
        refused(call, maker, act, LEAST, want <= NULL && want >= SIZE ? -10 - want : 0);
    }

    // ---- rows, claims

    private static void set() {
        for (int what : new int[] {-1, 2, 3, LEAST, GREATEST}) {
            refused("set(" + what + ", 1)", RefusalsTest::stage, x -> x.set(what, 1), BAD);
        }
        for (int v : new int[] {0, 10, -1, LEAST, GREATEST}) {
            refused("set(0, " + v + ")", RefusalsTest::stage, x -> x.set(0, v), BAD);
        }
        for (int v : new int[] {-1, 7, LEAST, GREATEST}) {
            refused("set(1, " + v + ")", RefusalsTest::stage, x -> x.set(1, v), BAD);
        }
    }

    private static void type() {
        for (int b : new int[] {-1, 256, LEAST, GREATEST}) {
            refused("type(" + b + ")", RefusalsTest::stage, x -> x.type(b), BAD);
            refused("type(" + b + ") with a FAULT", RefusalsTest::faulty, x -> x.type(b), BAD);
            refused("type(" + b + ") when full: BAD ahead of FULL", RefusalsTest::full, x -> x.type(b), BAD);
        }
        for (int b : new int[] {0, 'm', ';', 255}) {
            refused("type(" + b + ") when full", RefusalsTest::full, x -> x.type(b), FULL);
        }
    }

    private static void claims() {
        refused("claims() with a FAULT", RefusalsTest::faulty, x -> x.claims(), NOT);
        refused("claims() when full", RefusalsTest::full, x -> x.claims(), NOT);
    }

    private static void claim() {
        for (int i : new int[] {-1, 3, 9, 10, LEAST, GREATEST}) {
            refused("claim(" + i + ", 0)", RefusalsTest::stage, x -> x.claim(i, 0), BAD);
        }
        for (int what : new int[] {-1, 5, LEAST, GREATEST}) {
            refused("claim(0, " + what + ")", RefusalsTest::stage, x -> x.claim(0, what), BAD);
            refused("claim(0, " + what + "): BAD ahead of NOT", RefusalsTest::faulty, x -> x.claim(0, what), BAD);
        }
        for (int what = 0; what <= 4; what++) {
            int of = what;
            refused("claim(0, " + what + ") with a FAULT", RefusalsTest::faulty, x -> x.claim(0, of), NOT);
        }
        refused("claim(-1, 0): BAD ahead of NOT", RefusalsTest::faulty, x -> x.claim(-1, 0), BAD);
        refused("claim(0, 0) of no claims", ToldFigures::new, x -> x.claim(0, 0), BAD);
    }

    private static void believe() {
        for (int bits : new int[] {-1, 8, 9, 1024, LEAST, GREATEST}) {
            refused("believe(" + bits + ")", RefusalsTest::stage, x -> x.believe(bits), BAD);
        }
        refused("believe(1) of no claims", ToldFigures::new, x -> x.believe(1), BAD);
        refused("believe(0) with a FAULT", RefusalsTest::faulty, x -> x.believe(0), NOT);
        refused("believe(-1): BAD ahead of NOT", RefusalsTest::faulty, x -> x.believe(-1), BAD);
        refused("believe(least): BAD ahead of NOT", RefusalsTest::faulty, x -> x.believe(LEAST), BAD);
    }

    private static void put() {
        int[] noRows = {-4, 0, 3, 5, 3000000, 5000000, 1110000, 1111100, 4, 3000001, 10000003, 10003000, 9999999,
            10000000, 40000000, LEAST, GREATEST};
        for (int row : noRows) {
            refused("put(" + row + ")", RefusalsTest::stage, x -> x.put(row), BAD);
            refused("put(" + row + "): BAD ahead of NOT", RefusalsTest::faulty, x -> x.put(row), BAD);
        }
        refused("put(4000000) with a FAULT", RefusalsTest::faulty, x -> x.put(4000000), NOT);
        refused("put(40) with a FAULT", RefusalsTest::faulty, x -> x.put(40), NOT);
    }

    // ---- what can be

    private static void whatCanBeWithAFault() {
        refused("can() with a FAULT", RefusalsTest::faulty, x -> x.can(), NOT);
        refusedLong("ways() with a FAULT", RefusalsTest::faulty, x -> x.ways(), NOT);
        refused("alone() with a FAULT", RefusalsTest::faulty, x -> x.alone(), NOT);
        refused("fewest() with a FAULT", RefusalsTest::faulty, x -> x.fewest(), NOT);
        refused("quarrel() with a FAULT", RefusalsTest::faulty, x -> x.quarrel(), NOT);
        refused("ask() with a FAULT", RefusalsTest::faulty, x -> x.ask(), NOT);
    }

    private static void ranked() {
        for (int i : new int[] {-1, -2, LEAST}) {
            refused("ranked(" + i + ")", RefusalsTest::stage, x -> x.ranked(i), BAD);
            refused("ranked(" + i + ") of none: BAD ahead of NONE", RefusalsTest::impossible, x -> x.ranked(i), BAD);
            refused("ranked(" + i + "): BAD ahead of NOT", RefusalsTest::faulty, x -> x.ranked(i), BAD);
        }
        refused("ranked(0) with a FAULT", RefusalsTest::faulty, x -> x.ranked(0), NOT);
        refused("ranked(greatest): NOT, not NONE", RefusalsTest::faulty, x -> x.ranked(GREATEST), NOT);
    }

    private static void bound() {
        for (int mark : new int[] {-2, 7, LEAST, GREATEST}) {
            refused("bound(" + mark + ", 0)", RefusalsTest::stage, x -> x.bound(mark, 0), BAD);
            refused("bound(" + mark + ", 1): BAD ahead of NOT", RefusalsTest::faulty, x -> x.bound(mark, 1), BAD);
            refused("bound(" + mark + ", 1): BAD ahead of NONE", RefusalsTest::impossible, x -> x.bound(mark, 1), BAD);
        }
        for (int end : new int[] {-1, 2, LEAST, GREATEST}) {
            refused("bound(0, " + end + ")", RefusalsTest::stage, x -> x.bound(0, end), BAD);
            refused("bound(-1, " + end + ")", RefusalsTest::stage, x -> x.bound(-1, end), BAD);
            refused("bound(0, " + end + "): BAD ahead of NOT", RefusalsTest::faulty, x -> x.bound(0, end), BAD);
        }
        refused("bound(0, 0) with a FAULT", RefusalsTest::faulty, x -> x.bound(0, 0), NOT);
        refused("bound(-1, 1) with a FAULT", RefusalsTest::faulty, x -> x.bound(-1, 1), NOT);
    }

    // ---- shares, figures

    private static void shares() {
        for (int s : NO_SHEETS) {
            refused("shares(" + s + ", 0, 0)", RefusalsTest::stage, x -> x.shares(s, 0, 0), BAD);
        }
        for (int rule : new int[] {-1, 3, LEAST, GREATEST}) {
            refused("shares(0, " + rule + ", 0)", RefusalsTest::stage, x -> x.shares(0, rule, 0), BAD);
            refused("shares(3, " + rule + ", 0): BAD ahead of NULL", RefusalsTest::stage, x -> x.shares(3, rule, 0), BAD);
            refused("shares(1, " + rule + ", 0): BAD ahead of NOT", RefusalsTest::stage, x -> x.shares(1, rule, 0), BAD);
        }
        for (int what : new int[] {-1, 2, LEAST, GREATEST}) {
            refused("shares(0, 0, " + what + ")", RefusalsTest::stage, x -> x.shares(0, 0, what), BAD);
            refused("shares(3, 0, " + what + "): BAD ahead of NULL", RefusalsTest::stage, x -> x.shares(3, 0, what), BAD);
            refused("shares(1, 0, " + what + "): BAD ahead of NOT", RefusalsTest::stage, x -> x.shares(1, 0, what), BAD);
        }
        for (int what = 0; what <= 1; what++) {
            int of = what;
            refused("shares(3, 0, " + what + ")", RefusalsTest::stage, x -> x.shares(3, 0, of), NULL);
            refused("shares of -1", withInts(50, -1, 51), x -> x.shares(3, 0, of), NOT);
            refused("shares of 101", withInts(0, 101), x -> x.shares(3, 0, of), NOT);
            refused("shares of least", withInts(LEAST, 100), x -> x.shares(3, 0, of), NOT);
        }
    }

    private static void share() {
        for (int s : NO_SHEETS) {
            refused("share(" + s + ", 0, 1)", RefusalsTest::stage, x -> x.share(s, 0, 1), BAD);
        }
        for (int rule : new int[] {-1, 3, LEAST, GREATEST}) {
            refused("share(0, " + rule + ", 1)", RefusalsTest::stage, x -> x.share(0, rule, 1), BAD);
            refused("share(3, " + rule + ", 1): BAD ahead of NULL", RefusalsTest::stage, x -> x.share(3, rule, 1), BAD);
            refused("share(1, " + rule + ", 1): BAD ahead of NOT", RefusalsTest::stage, x -> x.share(1, rule, 1), BAD);
        }
        for (int n : new int[] {0, 301, -1, LEAST, GREATEST}) {
            refused("share(0, 0, " + n + ")", RefusalsTest::stage, x -> x.share(0, 0, n), BAD);
            refused("share(3, 0, " + n + "): BAD ahead of NULL", RefusalsTest::stage, x -> x.share(3, 0, n), BAD);
            refused("share(1, 0, " + n + "): BAD ahead of NOT", RefusalsTest::stage, x -> x.share(1, 0, n), BAD);
        }
        refused("share(3, 0, 1)", RefusalsTest::stage, x -> x.share(3, 0, 1), NULL);
        refused("share of -1", withInts(50, -1, 51), x -> x.share(3, 0, 100), NOT);
        refused("share of 101", withInts(0, 101), x -> x.share(3, 0, 100), NOT);
    }

    private static void last() {
        for (int s : NO_SHEETS) {
            refused("last(" + s + ", 0)", RefusalsTest::stage, x -> x.last(s, 0), BAD);
        }
        for (int figure : new int[] {-1, 10, LEAST, GREATEST}) {
            refused("last(0, " + figure + ")", RefusalsTest::stage, x -> x.last(0, figure), BAD);
            refused("last(3, " + figure + "): BAD ahead of NULL", RefusalsTest::stage, x -> x.last(3, figure), BAD);
        }
        refused("last(3, 0)", RefusalsTest::stage, x -> x.last(3, 0), NULL);
    }

    private static void lastChance() {
        for (int s : NO_SHEETS) {
            refused("lastChance(" + s + ")", RefusalsTest::stage, x -> x.lastChance(s), BAD);
        }
        refused("lastChance(3)", RefusalsTest::stage, x -> x.lastChance(3), NULL);
        refused("lastChance of 13", withInts(new int[13]), x -> x.lastChance(3), FULL);
        refused("lastChance of 60", withInts(new int[60]), x -> x.lastChance(3), FULL);
    }

    private static void first() {
        for (int s : NO_SHEETS) {
            refused("first(" + s + ", 1)", RefusalsTest::stage, x -> x.first(s, 1), BAD);
        }
        for (int figure : new int[] {0, 10, -1, LEAST, GREATEST}) {
            refused("first(0, " + figure + ")", RefusalsTest::stage, x -> x.first(0, figure), BAD);
            refused("first(3, " + figure + "): BAD ahead of NULL", RefusalsTest::stage, x -> x.first(3, figure), BAD);
        }
        refused("first(3, 1)", RefusalsTest::stage, x -> x.first(3, 1), NULL);
    }

    private static void firstChance() {
        Maker seven = withInts(1, 2, 3, 4, 5, 6, 7);
        for (int s : NO_SHEETS) {
            refused("firstChance(" + s + ", 1)", RefusalsTest::stage, x -> x.firstChance(s, 1), BAD);
        }
        for (int figure : new int[] {0, 10, -1, LEAST, GREATEST}) {
            refused("firstChance(0, " + figure + ")", RefusalsTest::stage, x -> x.firstChance(0, figure), BAD);
            refused("firstChance(3, " + figure + "): BAD ahead of NULL", RefusalsTest::stage,
                    x -> x.firstChance(3, figure), BAD);
            refused("firstChance(3, " + figure + "): BAD ahead of FULL", seven, x -> x.firstChance(3, figure), BAD);
        }
        refused("firstChance(3, 1)", RefusalsTest::stage, x -> x.firstChance(3, 1), NULL);
        refused("firstChance of seven", seven, x -> x.firstChance(3, 1), FULL);
        refused("firstChance of seven, none with the figure", seven, x -> x.firstChance(3, 9), FULL);
    }

    // ---- copies, twice

    private static void copies() {
        for (int s : NO_SHEETS) {
            refusedLong("copies(" + s + ", 0, 0)", RefusalsTest::stage, x -> x.copies(s, 0, 0), BAD);
            refusedLong("copies(0, " + s + ", 0)", RefusalsTest::stage, x -> x.copies(0, s, 0), BAD);
            refusedLong("copies(3, " + s + ", 0): BAD ahead of NULL", RefusalsTest::stage, x -> x.copies(3, s, 0), BAD);
            refusedLong("copies(" + s + ", 3, 0): BAD ahead of NULL", RefusalsTest::stage, x -> x.copies(s, 3, 0), BAD);
        }
        for (int what : new int[] {-1, 4, LEAST, GREATEST}) {
            refusedLong("copies(0, 1, " + what + ")", RefusalsTest::stage, x -> x.copies(0, 1, what), BAD);
            refusedLong("copies(3, 1, " + what + "): BAD ahead of NULL", RefusalsTest::stage,
                    x -> x.copies(3, 1, what), BAD);
            refusedLong("copies(0, 2, " + what + "): BAD ahead of NOT", RefusalsTest::stage,
                    x -> x.copies(0, 2, what), BAD);
        }
        for (int what = 0; what <= 3; what++) {
            int of = what;
            refusedLong("copies(3, 1, " + what + ")", RefusalsTest::stage, x -> x.copies(3, 1, of), NULL);
            refusedLong("copies(1, 3, " + what + ")", RefusalsTest::stage, x -> x.copies(1, 3, of), NULL);
            refusedLong("copies(2, 1, " + what + ")", RefusalsTest::stage, x -> x.copies(2, 1, of), NOT);
            refusedLong("copies(1, 2, " + what + ")", RefusalsTest::stage, x -> x.copies(1, 2, of), NOT);
        }
        refusedLong("copies(2, 2, 0)", RefusalsTest::stage, x -> x.copies(2, 2, 0), NOT);
        refusedLong("copies(3, 3, 0)", RefusalsTest::stage, x -> x.copies(3, 3, 0), NULL);
        refusedLong("copies(2, 3, 0): NULL ahead of NOT", RefusalsTest::stage, x -> x.copies(2, 3, 0), NULL);
        refusedLong("copies(3, 2, 0): NULL ahead of NOT", RefusalsTest::stage, x -> x.copies(3, 2, 0), NULL);
    }

    private static void twice() {
        for (int s : NO_SHEETS) {
            refusedLong("twice(" + s + ", 0)", RefusalsTest::stage, x -> x.twice(s, 0), BAD);
        }
        for (int what : new int[] {-1, 5, LEAST, GREATEST}) {
            refusedLong("twice(0, " + what + "): BAD ahead of NOT", RefusalsTest::stage, x -> x.twice(0, what), BAD);
            refusedLong("twice(3, " + what + "): BAD ahead of NULL", RefusalsTest::stage, x -> x.twice(3, what), BAD);
            refusedLong("twice of a pair, " + what, withInts(1, 2), x -> x.twice(3, what), BAD);
        }
        for (int what = 0; what <= 4; what++) {
            int of = what;
            refusedLong("twice(3, " + what + ")", RefusalsTest::stage, x -> x.twice(3, of), NULL);
            refusedLong("twice of no pairs, " + what, RefusalsTest::stage, x -> x.twice(2, of), NOT);
            refusedLong("twice of half a pair, " + what, withInts(1), x -> x.twice(3, of), NOT);
            refusedLong("twice of a pair and a half, " + what, withInts(1, 2, 3), x -> x.twice(3, of), NOT);
            refusedLong("twice of 10001, " + what, withInts(1, 2, 10001, 4), x -> x.twice(3, of), NOT);
            refusedLong("twice of -10001, " + what, withInts(1, 2, 3, -10001), x -> x.twice(3, of), NOT);
            refusedLong("twice of least, " + what, withInts(LEAST, 2), x -> x.twice(3, of), NOT);
        }
    }

    // ---- sheets

    private static void sheet() {
        for (int s : NO_SHEETS) {
            refused("sheet(" + s + ", 0, 1)", RefusalsTest::stage, x -> x.sheet(s, 0, 1), BAD);
            refused("sheet(" + s + ", 0, -1): BAD ahead of SIZE", RefusalsTest::stage, x -> x.sheet(s, 0, -1), BAD);
        }
        for (int form : NO_FORMS) {
            refused("sheet(0, " + form + ", 1)", RefusalsTest::stage, x -> x.sheet(0, form, 1), BAD);
            refused("sheet(0, " + form + ", -1): BAD ahead of SIZE", RefusalsTest::stage, x -> x.sheet(0, form, -1), BAD);
        }
        for (int n : new int[] {61, 62, GREATEST}) {
            refused("sheet(0, 0, " + n + ")", RefusalsTest::stage, x -> x.sheet(0, 0, n), BAD);
            refused("sheet(3, 0, " + n + ")", RefusalsTest::stage, x -> x.sheet(3, 0, n), BAD);
        }
        for (int n : new int[] {-1, -2, LEAST}) {
            refused("sheet(0, 0, " + n + ")", RefusalsTest::stage, x -> x.sheet(0, 0, n), SIZE);
            refused("sheet(3, 2, " + n + ")", RefusalsTest::stage, x -> x.sheet(3, 2, n), SIZE);
        }
    }

    private static void lose() {
        for (int s : NO_SHEETS) {
            refused("lose(" + s + ")", RefusalsTest::stage, x -> x.lose(s), BAD);
        }
        refused("lose(3)", RefusalsTest::stage, x -> x.lose(3), NULL);
        for (int s = 0; s < 4; s++) {
            int of = s;
            refused("lose(" + s + ") of a new object", ToldFigures::new, x -> x.lose(of), NULL);
        }
    }

    private static void lay() {
        for (int s : NO_SHEETS) {
            refused("lay(" + s + ", 0, 0, 1)", RefusalsTest::stage, x -> x.lay(s, 0, 0, 1), BAD);
        }
        for (int form : NO_FORMS) {
            refused("lay(0, " + form + ", 0, 1)", RefusalsTest::stage, x -> x.lay(0, form, 0, 1), BAD);
            refused("lay(3, " + form + ", 0, 1): BAD ahead of NULL", RefusalsTest::stage, x -> x.lay(3, form, 0, 1), BAD);
            refused("lay(0, " + form + ", 9, 1): BAD ahead of INDEX", RefusalsTest::stage, x -> x.lay(0, form, 9, 1), BAD);
        }
        refused("lay(3, 0, 0, 1)", RefusalsTest::stage, x -> x.lay(3, 0, 0, 1), NULL);
        refused("lay(3, 2, 0, 1): a LOST sheet has no form", RefusalsTest::stage, x -> x.lay(3, 2, 0, 1), NULL);
        refused("lay(3, 0, -1, 1): NULL ahead of INDEX", RefusalsTest::stage, x -> x.lay(3, 0, -1, 1), NULL);
        refused("lay(0, 1, 0, 1)", RefusalsTest::stage, x -> x.lay(0, 1, 0, 1), CAST);
        refused("lay(0, 2, 0, 1)", RefusalsTest::stage, x -> x.lay(0, 2, 0, 1), CAST);
        refused("lay(1, 1, 0, 1)", RefusalsTest::stage, x -> x.lay(1, 1, 0, 1), CAST);
        refused("lay(0, 1, 3, 1): CAST ahead of INDEX", RefusalsTest::stage, x -> x.lay(0, 1, 3, 1), CAST);
        refused("lay(0, 1, -1, 1): CAST ahead of INDEX", RefusalsTest::stage, x -> x.lay(0, 1, -1, 1), CAST);
        for (int i : new int[] {-1, 3, 60, LEAST, GREATEST}) {
            refused("lay(0, 0, " + i + ", 1)", RefusalsTest::stage, x -> x.lay(0, 0, i, 1), INDEX);
        }
        refused("lay(2, 2, 0, 1) of no items", RefusalsTest::stage, x -> x.lay(2, 2, 0, 1), INDEX);
    }

    private static void get() {
        for (int s : NO_SHEETS) {
            refusedGet("get(" + s + ", 0, 0)", RefusalsTest::stage, x -> x.get(s, 0, 0), BAD);
        }
        for (int form : NO_FORMS) {
            refusedGet("get(0, " + form + ", 0)", RefusalsTest::stage, x -> x.get(0, form, 0), BAD);
            refusedGet("get(3, " + form + ", 0): BAD ahead of NULL", RefusalsTest::stage, x -> x.get(3, form, 0), BAD);
            refusedGet("get(0, " + form + ", 9): BAD ahead of INDEX", RefusalsTest::stage, x -> x.get(0, form, 9), BAD);
        }
        refusedGet("get(3, 0, 0)", RefusalsTest::stage, x -> x.get(3, 0, 0), NULL);
        refusedGet("get(3, 2, 0): a LOST sheet has no form", RefusalsTest::stage, x -> x.get(3, 2, 0), NULL);
        refusedGet("get(3, 0, -1): NULL ahead of INDEX", RefusalsTest::stage, x -> x.get(3, 0, -1), NULL);
        refusedGet("get(0, 1, 0)", RefusalsTest::stage, x -> x.get(0, 1, 0), CAST);
        refusedGet("get(0, 2, 3): CAST ahead of INDEX", RefusalsTest::stage, x -> x.get(0, 2, 3), CAST);
        refusedGet("get(0, 2, -1): CAST ahead of INDEX", RefusalsTest::stage, x -> x.get(0, 2, -1), CAST);
        for (int i : new int[] {-1, 3, 60, LEAST, GREATEST}) {
            refusedGet("get(0, 0, " + i + ")", RefusalsTest::stage, x -> x.get(0, 0, i), INDEX);
        }
        refusedGet("get(2, 2, 0) of no items", RefusalsTest::stage, x -> x.get(2, 2, 0), INDEX);
    }

    private static void copy() {
        for (int s : NO_SHEETS) {
            refused("copy(" + s + ", 0, 0, 0, 1)", RefusalsTest::stage, x -> x.copy(s, 0, 0, 0, 1), BAD);
            refused("copy(0, 0, " + s + ", 0, 1)", RefusalsTest::stage, x -> x.copy(0, 0, s, 0, 1), BAD);
            refused("copy(3, 0, " + s + ", 0, 1): BAD ahead of NULL", RefusalsTest::stage,
                    x -> x.copy(3, 0, s, 0, 1), BAD);
            refused("copy(" + s + ", -1, 3, 0, 1): BAD ahead of NULL", RefusalsTest::stage,
                    x -> x.copy(s, -1, 3, 0, 1), BAD);
        }
        refused("copy(3, 0, 0, 0, 1)", RefusalsTest::stage, x -> x.copy(3, 0, 0, 0, 1), NULL);
        refused("copy(0, 0, 3, 0, 1)", RefusalsTest::stage, x -> x.copy(0, 0, 3, 0, 1), NULL);
        refused("copy(3, 0, 3, 0, 0)", RefusalsTest::stage, x -> x.copy(3, 0, 3, 0, 0), NULL);
        refused("copy(1, 0, 3, 0, 1): NULL ahead of STORE", RefusalsTest::stage, x -> x.copy(1, 0, 3, 0, 1), NULL);
        refused("copy(0, -1, 3, 0, 1): NULL ahead of INDEX", RefusalsTest::stage, x -> x.copy(0, -1, 3, 0, 1), NULL);
        refused("copy(0, 0, 1, 0, 1)", RefusalsTest::sized, x -> x.copy(0, 0, 1, 0, 1), STORE);
        refused("copy(1, 0, 0, 0, 1)", RefusalsTest::sized, x -> x.copy(1, 0, 0, 0, 1), STORE);
        refused("copy(0, 0, 1, 0, 0) of none", RefusalsTest::sized, x -> x.copy(0, 0, 1, 0, 0), STORE);
        refused("copy(0, 9, 1, 0, 1): STORE ahead of INDEX", RefusalsTest::sized, x -> x.copy(0, 9, 1, 0, 1), STORE);
        refused("copy(0, 0, 1, 0, -1): STORE ahead of INDEX", RefusalsTest::sized, x -> x.copy(0, 0, 1, 0, -1), STORE);
    }

    /** Sheets 1 and 3 have four ints each. */
    private static void copyBeyond() {
        int[][] beyond = {{-1, 0, 1}, {0, -1, 1}, {0, 0, -1}, {0, 0, 5}, {1, 0, 4}, {0, 1, 4}, {4, 0, 1}, {0, 4, 1},
            {5, 0, 0}, {0, 5, 0}, {-1, 0, 0}, {0, -1, 0}, {LEAST, 0, 1}, {0, LEAST, 1}, {0, 0, LEAST},
            {GREATEST, 0, 1}, {0, GREATEST, 1}, {0, 0, GREATEST}, {1, 1, GREATEST}, {GREATEST, GREATEST, GREATEST},
            {LEAST, LEAST, LEAST}, {2, 2, 3}};
        for (int[] c : beyond) {
            String with = c[0] + ", to " + c[1] + ", " + c[2];
            refused("copy from " + with, withInts(4, 3, 2, 1), x -> x.copy(1, c[0], 3, c[1], c[2]), INDEX);
            refused("copy within from " + with, RefusalsTest::stage, x -> x.copy(1, c[0], 1, c[1], c[2]), INDEX);
        }
        refused("copy of one from no items", RefusalsTest::stage, x -> x.copy(2, 0, 1, 0, 1), INDEX);
        refused("copy of one to no items", RefusalsTest::stage, x -> x.copy(1, 0, 2, 0, 1), INDEX);
    }

    private static void write() {
        for (int s : NO_SHEETS) {
            refused("write(" + s + ")", RefusalsTest::stage, x -> x.write(s), BAD);
            refused("write(" + s + "): BAD ahead of NOT", RefusalsTest::faulty, x -> x.write(s), BAD);
        }
        refused("write(3)", RefusalsTest::stage, x -> x.write(3), NULL);
        refused("write(3): NULL ahead of NOT", RefusalsTest::faulty, x -> x.write(3), NULL);
        refused("write(0) with a FAULT", RefusalsTest::faulty, x -> x.write(0), NOT);
        refused("write(1) with a FAULT", RefusalsTest::faulty, x -> x.write(1), NOT);
        refused("write(2) of no items with a FAULT", RefusalsTest::faulty, x -> x.write(2), NOT);
    }

    private static void count() {
        for (int what : new int[] {-1, 5, 6, 7, 9, LEAST, GREATEST}) {
            refused("count(" + what + ")", RefusalsTest::stage, x -> x.count(what), BAD);
        }
    }

    /** It is never refused; with a FAULT it tells refusals, and they change nothing either. */
    private static void digest() {
        for (Maker maker : new Maker[] {RefusalsTest::stage, RefusalsTest::faulty, RefusalsTest::full}) {
            refused("digest()", maker, x -> x.digest(), maker.make().digest(), 0);
        }
    }

    /** Calls that only ask: answered, they change nothing either. */
    private static void asks(String call, Maker maker, Act act) {
        refused(call, maker, act, act.on(maker.make()), 0);
    }

    private static void callsThatOnlyAsk() {
        for (Maker maker : new Maker[] {RefusalsTest::stage, RefusalsTest::faulty, RefusalsTest::full}) {
            asks("fault()", maker, x -> x.fault());
            asks("rows()", maker, x -> x.rows());
            asks("count(8)", maker, x -> x.count(8));
            asks("last(1, 0)", maker, x -> x.last(1, 0));
            asks("first(1, 2)", maker, x -> x.first(1, 2));
            asks("lastChance(1)", maker, x -> x.lastChance(1));
            asks("firstChance(1, 2)", maker, x -> x.firstChance(1, 2));
            asks("shares(0, 0, 0)", maker, x -> x.shares(0, 0, 0));
            asks("share(0, 0, 3)", maker, x -> x.share(0, 0, 3));
            asks("copies(0, 1, 0)", maker, x -> x.copies(0, 1, 0));
            asks("get(1, 2, 3)", maker, x -> x.get(1, 2, 3));
        }
        asks("quarrel()", RefusalsTest::impossible, x -> x.quarrel());
        asks("fewest()", RefusalsTest::impossible, x -> x.fewest());
        asks("ask()", RefusalsTest::stage, x -> x.ask());
        asks("alone()", RefusalsTest::impossible, x -> x.alone());
        asks("put(2000200)", RefusalsTest::stage, x -> x.put(2000200));
        asks("twice of a pair", withInts(1, 2), x -> x.twice(3, 4));
    }
}
