/** Each promise by itself, with answers that were found by hand: ordinary ones, edges, refusals. */
public final class PromisesTest {
    private static final int NONE = -1, BAD = -2, NOT = -3, FULL = -4;
    private static final int NULL = -11, INDEX = -12, CAST = -13, STORE = -14, SIZE = -15;
    private static final int LEAST_INT = Integer.MIN_VALUE;
    private static final long LEAST_LONG = Long.MIN_VALUE;
    private static final Check CHECK = new Check("PromisesTest");

    public static void main(String[] args) {
        newObject();
        set();
        type();
        wipe();
        fault();
        faultOfParts();
        claims();
        claim();
        believe();
        put();
        putMean();
        putSpread();
        putMiddle();
        putCountsAndShares();
        putEnds();
        rows();
        can();
        ranked();
        ways();
        bound();
        alone();
        fewest();
        quarrel();
        ask();
        shares();
        share();
        last();
        lastChance();
        first();
        firstChance();
        copies();
        copiesOfLikeLength();
        twice();
        sheet();
        lose();
        lay();
        get();
        copy();
        write();
        count();
        findings();
        digest();
        nothingIsLeftOver();
        fullSheets();
        fullRows();
        CHECK.end();
    }

    private static void due(String call, long got, long want) {
        CHECK.due(call, got, want);
    }

    private static void typeInto(ToldFigures x, String text) {
        for (char b : text.toCharArray()) {
            x.type(b);
        }
    }

    private static ToldFigures typed(int n, String text) {
        ToldFigures x = new ToldFigures();
        x.set(0, n);
        typeInto(x, text);
        return x;
    }

    private static ToldFigures laid(int form, int... items) {
        ToldFigures x = new ToldFigures();
        layOn(x, 0, form, items);
        return x;
    }

    private static void layOn(ToldFigures x, int s, int form, int... items) {
        x.sheet(s, form, items.length);
        for (int i = 0; i < items.length; i++) {
            x.lay(s, form, i, items[i]);
        }
    }

    // ---- 1 to 9: rows, claims

    private static void newObject() {
        ToldFigures x = new ToldFigures();
        int[] counts = {5, 6, 0, 0, 0};
        for (int what = 0; what < counts.length; what++) {
            due("new: count(" + what + ")", x.count(what), counts[what]);
        }
        due("new: count(8)", x.count(8), 0);
        due("new: claims()", x.claims(), 0);
        due("new: fault()", x.fault(), NONE);
        for (int s = 0; s < 4; s++) {
            due("new: lose(" + s + ")", x.lose(s), NULL);
        }
    }

    private static void set() {
        ToldFigures x = new ToldFigures();
        due("set(0, 9)", x.set(0, 9), 5);
        due("set(0, 1)", x.set(0, 1), 9);
        due("set(1, 0)", x.set(1, 0), 6);
        due("set(1, 6)", x.set(1, 6), 0);
        due("set(0, 0)", x.set(0, 0), BAD);
        due("set(0, 10)", x.set(0, 10), BAD);
        due("set(1, -1)", x.set(1, -1), BAD);
        due("set(1, 7)", x.set(1, 7), BAD);
        due("set(2, 3)", x.set(2, 3), BAD);
        due("set(-1, 3)", x.set(-1, 3), BAD);
        due("count(0) behind refusals", x.count(0), 1);
        due("count(1) behind refusals", x.count(1), 6);
        ToldFigures y = typed(5, "l=0;g=0");
        y.believe(1);
        y.set(0, 4);
        due("set leaves BELIEVED", y.count(3), 1);
    }

    private static void type() {
        ToldFigures x = new ToldFigures();
        due("type(-1)", x.type(-1), BAD);
        due("type(256)", x.type(256), BAD);
        due("type(0)", x.type(0), 1);
        due("fault() of byte 0", x.fault(), 0);
        due("type(255)", x.type(255), 2);
        for (int i = 3; i <= 100; i++) {
            due("type('m') as " + i, x.type('m'), i);
        }
        due("type at 100 bytes", x.type('m'), FULL);
        due("BAD ahead of FULL", x.type(256), BAD);
        due("count(2) when full", x.count(2), 100);
        ToldFigures y = typed(5, "l=0;g=0");
        y.believe(1);
        due("a refused byte leaves BELIEVED", y.type(-5) == BAD && y.count(3) == 1 ? 1 : 0, 1);
        typeInto(y, ";o=0");
        due("all are BELIEVED when the text changes", y.count(3), 7);
    }

    private static void wipe() {
        ToldFigures x = typed(5, "l=0;g");
        due("wipe()", x.wipe(), 5);
        due("fault() of nothing", x.fault(), NONE);
        due("claims() of nothing", x.claims(), 0);
        due("count(3) of nothing", x.count(3), 0);
        due("wipe() of nothing", x.wipe(), 0);
        typeInto(x, "c0=5");
        due("can() of a new text", x.can(), 1);
        x.wipe();
        due("can() of no text", x.can(), 462);
    }

    private static void faultIs(String text, int place) {
        due("fault() of " + text, typed(5, text).fault(), place);
    }

    private static void fault() {
        faultIs("", NONE);
        faultIs(";", 0);
        faultIs("x", 0);
        faultIs("M=1", 0);
        faultIs("m", 1);
        faultIs("m1", 1);
        faultIs("m=", 2);
        faultIs("m=.5", 2);
        faultIs("m=12", NONE);
        faultIs("m=123", 4);
        faultIs("m=12.", 5);
        faultIs("m=12.x", 5);
        faultIs("m=12.34", NONE);
        faultIs("m=12.345", 7);
        faultIs("m=1..2", 4);
        faultIs("m=1.2.3", 5);
        faultIs("m=1e", NONE);
        faultIs("m=1.2t", NONE);
        faultIs("m=1.t", 4);
        faultIs("m=1ue", 4);
        faultIs("m=1u5", 4);
        faultIs("m=-1", 2);
        faultIs("m= 1", 2);
        faultIs("s=1;v=2e;d=3.5u", NONE);
    }

    private static void faultOfParts() {
        faultIs("c", 1);
        faultIs("c7=1", 1);
        faultIs("c=1", 1);
        faultIs("c6=1", NONE);
        faultIs("c6=12", NONE);
        faultIs("c6=123", 5);
        faultIs("c6=1.0", 4);
        faultIs("c6=1u", 4);
        faultIs("h6=1", 4);
        faultIs("h6=100%", NONE);
        faultIs("h6=999%t", NONE);
        faultIs("h6=1000%", 6);
        faultIs("h6=%", 3);
        faultIs("h6=1.5%", 4);
        faultIs("h6=1%ee", 6);
        faultIs("l=6", NONE);
        faultIs("g=7", 2);
        faultIs("o=6u", 3);
        faultIs("l1=6", 1);
        faultIs("l=1;", 4);
        faultIs("l=1;;", 4);
        faultIs("l=1,g=2", 3);
        String ten = "l=0;l=0;l=0;l=0;l=0;l=0;l=0;l=0;l=0;l=0";
        faultIs(ten, NONE);
        faultIs(ten + ";", 39);
        faultIs(ten + ";l=0", 39);
        faultIs(ten + "x", 39);
    }

    private static void claims() {
        due("claims() of 1", typed(5, "l=0").claims(), 1);
        due("claims() of 10", typed(5, "l=0;l=0;l=0;l=0;l=0;l=0;l=0;l=0;l=0;l=0").claims(), 10);
        due("claims() with a FAULT", typed(5, "l=0;").claims(), NOT);
    }

    private static void claimIs(ToldFigures x, int i, int... told) {
        for (int what = 0; what < told.length; what++) {
            due("claim(" + i + ", " + what + ")", x.claim(i, what), told[what]);
        }
    }

    private static void claim() {
        ToldFigures x = typed(5, "m=03.40e;s=1.8t;v=12u;d=7;c6=09;h2=050%t;l=1;g=5;o=0;h0=7%");
        claimIs(x, 0, 0, NONE, 340, 2, 1);
        claimIs(x, 1, 1, NONE, 18, 1, 2);
        claimIs(x, 2, 2, NONE, 12, 0, 0);
        claimIs(x, 3, 3, NONE, 7, 0, 0);
        claimIs(x, 4, 4, 6, 9, 0, 0);
        claimIs(x, 5, 5, 2, 50, 0, 2);
        claimIs(x, 6, 6, 1, NONE, 0, 0);
        claimIs(x, 7, 7, 5, NONE, 0, 0);
        claimIs(x, 8, 8, 0, NONE, 0, 0);
        claimIs(x, 9, 5, 0, 7, 0, 0);
        due("claim(10, 0)", x.claim(10, 0), BAD);
        due("claim(-1, 0)", x.claim(-1, 0), BAD);
        due("claim(0, 5)", x.claim(0, 5), BAD);
        due("claim(0, -1)", x.claim(0, -1), BAD);
        ToldFigures y = typed(5, "l=1;");
        due("claim(0, 0) with a FAULT", y.claim(0, 0), NOT);
        due("BAD ahead of NOT", y.claim(0, 5), BAD);
        due("claim(0, 0) of nothing", new ToldFigures().claim(0, 0), BAD);
    }

    private static void believe() {
        ToldFigures x = typed(5, "c0=5;c1=5;g=0");
        due("count(3)", x.count(3), 7);
        due("can() of all", x.can(), 0);
        due("believe(5)", x.believe(5), 7);
        due("can() of 5", x.can(), 1);
        due("believe(2)", x.believe(2), 5);
        due("can() of 2", x.can(), 1);
        due("believe(8)", x.believe(8), BAD);
        due("believe(-1)", x.believe(-1), BAD);
        due("believe(0)", x.believe(0), 2);
        due("can() of none", x.can(), 462);
        x.type(';');
        due("believe(0) with a FAULT", x.believe(0), NOT);
        due("believe(-1) with a FAULT", x.believe(-1), BAD);
        due("count(3) with a FAULT", x.count(3), 0);
        ToldFigures y = new ToldFigures();
        due("believe(0) of nothing", y.believe(0), 0);
        due("believe(1) of nothing", y.believe(1), BAD);
    }

    private static void put() {
        ToldFigures x = new ToldFigures();
        due("put(5)", x.put(5), 0);
        due("put(5000000)", x.put(5000000), 0);
        due("put(4)", x.put(4), BAD);
        due("put(6)", x.put(6), BAD);
        due("put(-5)", x.put(-5), BAD);
        due("put(10000004)", x.put(10000004), BAD);
        due("put(15000000)", x.put(15000000), BAD);
        due("put(least)", x.put(Integer.MIN_VALUE), BAD);
        due("put(greatest)", x.put(Integer.MAX_VALUE), BAD);
        x.set(1, 5);
        due("put(5) above TOP", x.put(5), BAD);
        due("put(50) at TOP", x.put(50), 0);
        x.type('m');
        due("put(50) with a FAULT", x.put(50), NOT);
        due("put(5) with a FAULT", x.put(5), BAD);
        ToldFigures y = typed(5, "l=0;g=6");
        y.believe(2);
        due("put tells claims that are not BELIEVED", y.put(5000000), 1);
        y.set(0, 9);
        due("put of nine", y.put(9000000), 1);
    }

    private static void holding(int n, int row, String text, int bits) {
        due("put(" + row + ") of " + text, typed(n, text).put(row), bits);
    }

    private static void putMean() {
        holding(4, 22000, "m=3;m=2;m=2e;m=3e;m=2t;m=3t;m=2.5;m=2.50", 213);
        holding(4, 2200, "m=4;m=3;m=4e;m=3e;m=3t", 21);
        holding(8, 7100000, "m=0.13;m=0.12;m=0.12e;m=0.13e;m=0.12t;m=0.1;m=0.2t", 53);
        holding(3, 1000101, "m=3.33;m=3.3;m=3;m=3.34;m=3.33t;m=4;m=03.33e", 87);
        holding(3, 1000011, "m=3.67;m=3.66t;m=3.66;m=4;m=3t;m=3.7e", 59);
    }

    private static void putSpread() {
        holding(4, 2200000, "v=1;v=0;v=0e;v=1e;v=0t;v=0.5", 53);
        holding(4, 2002000, "v=2;v=1;v=2e;v=1e;v=1t;v=1.50e", 53);
        holding(5, 102101, "s=1.82;s=1.81t;s=1.82t;s=1.8;s=2;s=1t;s=1.81", 59);
        holding(5, 102101, "v=1.62;v=1.6;v=2;v=1.62t;v=1t", 31);
        holding(2, 1000001, "s=4.24;s=4.2;s=4;v=3;v=3.00t;v=2.99", 31);
        holding(1, 1, "s=0;s=0.0t;s=0.00e;s=1;v=0;v=0.01", 23);
        holding(3, 3000, "s=0;v=0.00;s=0t;v=0e;s=0.01", 15);
    }

    private static void putMiddle() {
        holding(4, 111001, "d=3;d=2e;d=2t;d=2.5;d=2;d=2.50t", 47);
        holding(4, 11200, "d=4;d=3;d=4e;d=3e;d=3t;d=3.5", 53);
        holding(3, 1000101, "d=4;d=4.0;d=4.00e;d=3.9", 7);
        holding(1, 10, "d=5;d=5t;d=6", 3);
        holding(2, 200, "d=4;d=4.5", 1);
    }

    private static void putCountsAndShares() {
        holding(3, 1000101, "c0=1;c0=01;c4=1;c5=0;c5=00;c6=2", 31);
        holding(8, 7001000, "h3=13%;h3=12%;h3=12%e;h3=13%e;h3=12%t;h0=100%;h6=0%", 117);
        holding(8, 5003000, "h3=38%;h3=38%e;h3=37%e;h3=37%t", 11);
        holding(3, 1000101, "h4=67%;h4=66%t;h4=67%t;h5=33%;h4=067%e;h0=999%", 27);
    }

    private static void putEnds() {
        holding(5, 200210, "l=1;g=5;o=1;o=4;l=0;g=6", 7);
        holding(5, 110210, "l=1;g=5;o=4;o=1;o=0", 7);
        holding(1, 1, "l=6;g=6;o=6;l=0", 7);
    }

    // ---- 10 to 18: what can be

    private static void rowsAre(int n, int top, int rows) {
        ToldFigures x = new ToldFigures();
        x.set(0, n);
        x.set(1, top);
        due("rows() of " + n + " to " + top, x.rows(), rows);
        typeInto(x, "c0=99;");
        due("rows() whatever is claimed", x.rows(), rows);
    }

    private static void rows() {
        rowsAre(5, 6, 462);
        rowsAre(9, 6, 5005);
        rowsAre(1, 6, 7);
        rowsAre(9, 0, 1);
        rowsAre(3, 2, 10);
        rowsAre(9, 1, 10);
    }

    private static void can() {
        due("can() of c0=5", typed(5, "c0=5").can(), 1);
        due("can() of c0=4", typed(5, "c0=4").can(), 6);
        due("can() of c0=6", typed(5, "c0=6").can(), 0);
        due("can() of m=1.5", typed(3, "m=1.5").can(), 0);
        due("can() of l=6", typed(9, "l=6").can(), 1);
        due("can() with a FAULT", typed(5, "c0=5;").can(), NOT);
        ToldFigures x = typed(5, "g=6");
        x.set(1, 5);
        due("can() above TOP", x.can(), 0);
        x.set(1, 6);
        due("can() up to TOP", x.can(), 210);
    }

    private static void ranked() {
        ToldFigures x = typed(2, "");
        x.set(1, 2);
        int[] order = {2000000, 1100000, 1010000, 200000, 110000, 20000, NONE};
        for (int i = 0; i < order.length; i++) {
            due("ranked(" + i + ")", x.ranked(i), order[i]);
        }
        due("ranked(-1)", x.ranked(-1), BAD);
        due("ranked(greatest)", x.ranked(Integer.MAX_VALUE), NONE);
        typeInto(x, "m=1.0");
        due("ranked(0) of m=1.0", x.ranked(0), 1010000);
        due("ranked(1) of m=1.0", x.ranked(1), 200000);
        due("ranked(2) of m=1.0", x.ranked(2), NONE);
        x.type(';');
        due("ranked(0) with a FAULT", x.ranked(0), NOT);
        due("ranked(-1) with a FAULT", x.ranked(-1), BAD);
    }

    private static void ways() {
        due("ways() of nine", typed(9, "").ways(), 40353607);
        due("ways() of m=1.0", typed(2, "m=1.0").ways(), 3);
        due("ways() of none", typed(2, "c0=3").ways(), 0);
        due("ways() of c0=2;c1=3", typed(5, "c0=2;c1=3").ways(), 10);
        due("ways() with a FAULT", typed(2, "c0").ways(), LEAST_LONG + 3);
    }

    private static void bound() {
        ToldFigures x = typed(5, "");
        due("bound(-1, 0)", x.bound(-1, 0), 0);
        due("bound(-1, 1)", x.bound(-1, 1), 30);
        due("bound(6, 0)", x.bound(6, 0), 0);
        due("bound(6, 1)", x.bound(6, 1), 5);
        due("bound(7, 0)", x.bound(7, 0), BAD);
        due("bound(-2, 0)", x.bound(-2, 0), BAD);
        due("bound(0, 2)", x.bound(0, 2), BAD);
        due("bound(0, -1)", x.bound(0, -1), BAD);
        typeInto(x, "m=5;l=3");
        due("bound(-1, 0) of m=5;l=3", x.bound(-1, 0), 23);
        due("bound(-1, 1) of m=5;l=3", x.bound(-1, 1), 27);
        due("bound(3, 0) of m=5;l=3", x.bound(3, 0), 1);
        due("bound(3, 1) of m=5;l=3", x.bound(3, 1), 2);
        x.set(1, 5);
        due("bound(6, 1) above TOP", x.bound(6, 1), 0);
        typeInto(x, ";c0=1");
        due("bound(0, 0) where none can be", x.bound(0, 0), NONE);
        x.type('!');
        due("bound(0, 0) with a FAULT", x.bound(0, 0), NOT);
        due("bound(7, 0) with a FAULT", x.bound(7, 0), BAD);
    }

    private static void alone() {
        ToldFigures x = typed(3, "m=1.5;d=2.5;l=0;g=6");
        due("alone()", x.alone(), 3);
        x.set(1, 5);
        due("alone() below g=6", x.alone(), 11);
        x.believe(4);
        due("alone() whatever is BELIEVED", x.alone(), 11);
        due("alone() of claims that only quarrel", typed(3, "l=1;g=0").alone(), 0);
        due("alone() of nothing", typed(3, "").alone(), 0);
        due("alone() with a FAULT", typed(3, "l").alone(), NOT);
    }

    private static void fewest() {
        due("fewest() where some can be", typed(5, "l=0;g=6").fewest(), 0);
        due("fewest() of l=1;g=0", typed(5, "l=1;g=0").fewest(), 1);
        due("fewest() of c0=1;c0=2;c0=1", typed(5, "c0=1;c0=2;c0=1").fewest(), 2);
        due("fewest() of c0=3;c1=2;c2=1", typed(5, "c0=3;c1=2;c2=1").fewest(), 1);
        due("fewest() of what cannot be alone", typed(5, "c0=9;l=0;c1=9").fewest(), 5);
        ToldFigures x = typed(5, "c0=1;c0=2;c0=1");
        x.believe(6);
        due("fewest() of those BELIEVED", x.fewest(), 2);
        x.believe(5);
        due("fewest() of like ones", x.fewest(), 0);
        due("fewest() with a FAULT", typed(5, "l").fewest(), NOT);
    }

    private static void quarrel() {
        due("quarrel() of none", typed(5, "l=0;g=6").quarrel(), 0);
        due("quarrel() of nothing", typed(5, "").quarrel(), 0);
        due("quarrel() of two", typed(5, "o=2;l=1;g=0").quarrel(), 5);
        due("quarrel() of three", typed(5, "c0=3;c1=2;c2=1").quarrel(), 7);
        due("quarrel() of the fewer", typed(5, "c0=3;c1=2;c2=1;c0=2").quarrel(), 9);
        due("quarrel() of one", typed(5, "c0=3;c0=2;c1=9").quarrel(), 4);
        ToldFigures x = typed(5, "c0=1;c0=2;c0=1");
        due("quarrel() of the least", x.quarrel(), 3);
        x.believe(6);
        due("quarrel() of those BELIEVED", x.quarrel(), 6);
        x.believe(5);
        due("quarrel() of like ones", x.quarrel(), 0);
        due("quarrel() with a FAULT", typed(5, "l").quarrel(), NOT);
    }

    private static void ask() {
        due("ask() of one mark", typed(1, "").ask(), 0);
        due("ask() where 0s are told", typed(2, "c0=0").ask(), 1);
        due("ask() of two rows", typed(2, "m=1;g=1").ask(), 0);
        due("ask() of (4, 6), (5, 5)", typed(2, "m=5.0").ask(), 4);
        due("ask() of m=3.4", typed(5, "m=3.4").ask(), 5);
        due("ask() of one row", typed(5, "c0=5").ask(), NONE);
        due("ask() of no row", typed(5, "c0=6").ask(), NONE);
        due("ask() with a FAULT", typed(5, "c0").ask(), NOT);
        // c0=1;c1=0;c2=0;c3=0 of 3: the rest are two of 4, 5, 6; each question leaves three at most
        due("ask() of like ones", typed(3, "c0=1;c1=0;c2=0;c3=0").ask(), 4);
    }

    // ---- 19 to 24: shares, figures

    private static void shares() {
        ToldFigures x = laid(1, 100);
        due("shares of 100", x.shares(0, 0, 0), 300);
        due("least of 100", x.shares(0, 2, 1), 1);
        x.lay(0, 1, 0, 99);
        due("shares of 99", x.shares(0, 0, 0), 0);
        due("least of 99", x.shares(0, 0, 1), NONE);
        x.lay(0, 1, 0, -1);
        due("shares of -1", x.shares(0, 0, 0), NOT);
        x.lay(0, 1, 0, 101);
        due("shares of 101", x.shares(0, 0, 1), NOT);
        due("BAD ahead of NOT", x.shares(0, 3, 0), BAD);
        due("shares(0, -1, 0)", x.shares(0, -1, 0), BAD);
        due("shares(0, 0, 2)", x.shares(0, 0, 2), BAD);
        due("shares(0, 0, -1)", x.shares(0, 0, -1), BAD);
        due("shares(4, 0, 0)", x.shares(4, 0, 0), BAD);
        due("shares(-1, 0, 0)", x.shares(-1, 0, 0), BAD);
        due("BAD leaves count(8)", x.count(8), 0);
        due("shares(1, 0, 0)", x.shares(1, 0, 0), NULL);
        due("NULL tells count(8)", x.count(8), 1);
        due("least of 50, 50", laid(0, 50, 50).shares(0, 0, 1), 2);
        due("least of 17, 17, 67", laid(0, 17, 17, 67).shares(0, 0, 1), 6);
        due("least of 50, 49, 0 by u: 101, 99, 1", laid(0, 50, 49, 0).shares(0, 0, 1), 201);
        due("least of 50, 49, 0 by e: 101, 98, 1", laid(0, 50, 49, 0).shares(0, 1, 1), 200);
        due("shares of no items", laid(0).shares(0, 0, 1), NONE);
    }

    private static void share() {
        due("13, 88 of 8 by u", laid(2, 13, 88).share(0, 0, 8), 1);
        due("13, 88 of 8 by e", laid(2, 13, 88).share(0, 1, 8), 0);
        due("12, 88 of 8 by e", laid(2, 12, 88).share(0, 1, 8), 1);
        due("12, 88 of 8 by u", laid(2, 12, 88).share(0, 0, 8), 0);
        due("12, 87 of 8 by t", laid(2, 12, 87).share(0, 2, 8), 1);
        due("12, 88 of 8 by t", laid(2, 12, 88).share(0, 2, 8), 0);
        due("0, 100 of 300 by t", laid(2, 0, 100).share(0, 2, 300), 1);
        due("1, 100 of 200 by u: both halves go up", laid(2, 1, 100).share(0, 0, 200), 1);
        due("0, 99 of 200 by t", laid(2, 0, 99).share(0, 2, 200), 1);
        due("no items of 1", laid(2).share(0, 0, 1), 0);
        ToldFigures x = laid(2, 50, 101);
        due("items that are no hundredths", x.share(0, 0, 2), NOT);
        due("share(0, 0, 0)", x.share(0, 0, 0), BAD);
        due("share(0, 0, 301)", x.share(0, 0, 301), BAD);
        due("share(0, 3, 1)", x.share(0, 3, 1), BAD);
        due("share(4, 0, 1)", x.share(4, 0, 1), BAD);
        due("share(1, 0, 0)", x.share(1, 0, 0), BAD);
        due("share(1, 0, 1)", x.share(1, 0, 1), NULL);
    }

    private static void last() {
        ToldFigures x = laid(2, 0, 10, -128, 8, Integer.MIN_VALUE, Integer.MAX_VALUE, 9);
        due("last 0", x.last(0, 0), 2);
        due("last 8", x.last(0, 8), 3);
        due("last 7", x.last(0, 7), 1);
        due("last 9", x.last(0, 9), 1);
        due("last 1", x.last(0, 1), 0);
        due("last(0, 10)", x.last(0, 10), BAD);
        due("last(0, -1)", x.last(0, -1), BAD);
        due("last(4, 0)", x.last(4, 0), BAD);
        due("last(1, 10)", x.last(1, 10), BAD);
        due("last(1, 0)", x.last(1, 0), NULL);
    }

    private static void lastChance() {
        due("chance of no items", laid(2).lastChance(0), 1000000);
        due("chance of one", laid(2, 4).lastChance(0), 1000000);
        due("chance of two alike", laid(2, 4, 14).lastChance(0), 100000);
        due("chance of two unlike", laid(2, 4, 15).lastChance(0), 1000000);
        due("chance of three alike", laid(2, 4, 14, -24).lastChance(0), 10000);
        due("chance of two of three", laid(2, 4, 14, 5).lastChance(0), 280000);
        due("chance of 12 alike", laid(2, new int[12]).lastChance(0), 0);
        due("chance of 7 alike", laid(2, new int[7]).lastChance(0), 1);
        due("chance of 8 alike: cut", laid(2, new int[8]).lastChance(0), 0);
        due("chance of 2 of 11", laid(2, 0, 1, 2, 3, 4, 5, 6, 7, 8, 9, 10).lastChance(0), 1000000);
        ToldFigures x = laid(2, new int[13]);
        due("chance of 13", x.lastChance(0), FULL);
        due("lastChance(4)", x.lastChance(4), BAD);
        due("lastChance(-1)", x.lastChance(-1), BAD);
        due("lastChance(1)", x.lastChance(1), NULL);
    }

    private static void first() {
        ToldFigures x = laid(2, 0, 1, -19, 100, Integer.MIN_VALUE, Integer.MAX_VALUE, 99, -9, 1000000000);
        due("first 1", x.first(0, 1), 4);
        due("first 2", x.first(0, 2), 2);
        due("first 9", x.first(0, 9), 2);
        due("first 3", x.first(0, 3), 0);
        due("first(0, 0)", x.first(0, 0), BAD);
        due("first(0, 10)", x.first(0, 10), BAD);
        due("first(4, 1)", x.first(4, 1), BAD);
        due("first(1, 0)", x.first(1, 0), BAD);
        due("first(1, 1)", x.first(1, 1), NULL);
    }

    private static void firstChance() {
        due("chance of 1", laid(2, 1).firstChance(0, 1), 301000);
        due("chance of 9", laid(2, 9).firstChance(0, 9), 46000);
        due("chance of none", laid(2, 9).firstChance(0, 1), 1000000);
        due("chance of no items", laid(2).firstChance(0, 1), 1000000);
        due("chance of 0s alone", laid(2, 0, 0, 0, 0, 0, 0, 0, 0).firstChance(0, 5), 1000000);
        due("chance of two 1s", laid(2, 1, 10).firstChance(0, 1), 90601);
        due("chance of a 1 of two", laid(2, 1, 20).firstChance(0, 1), 511399);
        due("chance of three 1s: cut", laid(2, 1, 10, -100).firstChance(0, 1), 27270);
        due("chance of six 9s", laid(2, 9, 9, 9, 9, 9, 9).firstChance(0, 9), 0);
        due("chance of six 1s", laid(2, 1, 1, 1, 1, 1, 1).firstChance(0, 1), 743);
        due("six and 0s", laid(2, 0, 1, 1, 1, 1, 1, 1, 0).firstChance(0, 1), 743);
        ToldFigures x = laid(2, 1, 1, 1, 1, 1, 1, 1);
        due("seven", x.firstChance(0, 1), FULL);
        due("firstChance(0, 0)", x.firstChance(0, 0), BAD);
        due("firstChance(0, 10)", x.firstChance(0, 10), BAD);
        due("firstChance(4, 1)", x.firstChance(4, 1), BAD);
        due("firstChance(1, 1)", x.firstChance(1, 1), NULL);
    }

    // ---- 25, 26: copies, twice

    private static void copiesAre(ToldFigures x, long... told) {
        for (int what = 0; what < 4; what++) {
            due("copies(0, 1, " + what + ")", x.copies(0, 1, what), told[what]);
        }
    }

    private static void copies() {
        ToldFigures x = laid(0, 9, 1, 2, 7);
        layOn(x, 1, 2, 100, 1001, 1002, 1007, 3);
        copiesAre(x, 3, 1, 1, 1000);
        due("copies(0, 0, 0)", x.copies(0, 0, 0), 4);
        due("copies(0, 1, 4)", x.copies(0, 1, 4), LEAST_LONG + 2);
        due("copies(0, 1, -1)", x.copies(0, 1, -1), LEAST_LONG + 2);
        due("copies(4, 1, 0)", x.copies(4, 1, 0), LEAST_LONG + 2);
        due("copies(0, -1, 0)", x.copies(0, -1, 0), LEAST_LONG + 2);
        due("copies(2, 4, 0)", x.copies(2, 4, 0), LEAST_LONG + 2);
        due("copies(0, 2, 0)", x.copies(0, 2, 0), LEAST_LONG + 11);
        due("copies(2, 0, 0)", x.copies(2, 0, 0), LEAST_LONG + 11);
        due("count(8)", x.count(8), 1);
        x.sheet(3, 0, 0);
        due("copies(2, 3, 0)", x.copies(2, 3, 0), LEAST_LONG + 11);
        due("copies(0, 3, 0)", x.copies(0, 3, 0), LEAST_LONG + 3);
        due("copies(3, 0, 0)", x.copies(3, 0, 0), LEAST_LONG + 3);
        layOn(x, 0, 2, Integer.MIN_VALUE);
        layOn(x, 1, 2, Integer.MAX_VALUE);
        copiesAre(x, 1, 0, 0, 4294967295L);
        due("copies(1, 0, 3)", x.copies(1, 0, 3), -4294967295L);
    }

    private static void copiesOfLikeLength() {
        ToldFigures x = laid(2, 1, 2);
        layOn(x, 1, 2, 5, 6, 9, 10);
        copiesAre(x, 2, 0, 0, 4);
        layOn(x, 0, 2, 1, 2, 50, 51);
        layOn(x, 1, 2, 7, 8);
        copiesAre(x, 2, 0, 0, 6);
        layOn(x, 0, 2, 0, 7, 1, 2);
        layOn(x, 1, 2, 5, 6, 13);
        copiesAre(x, 2, 0, 2, 4);
        layOn(x, 0, 2, 3, 3, 3);
        layOn(x, 1, 2, 3, 3, 3, 3, 3);
        copiesAre(x, 3, 0, 0, 0);
        layOn(x, 0, 2, Integer.MAX_VALUE, Integer.MIN_VALUE);
        layOn(x, 1, 2, Integer.MIN_VALUE, Integer.MIN_VALUE + 1);
        copiesAre(x, 1, 0, 0, -4294967295L);
    }

    private static void twiceIs(ToldFigures x, long... told) {
        for (int what = 0; what < 5; what++) {
            due("twice(0, " + what + ")", x.twice(0, what), told[what]);
        }
    }

    private static void twice() {
        twiceIs(laid(2, 1, 4, 10, 7), 9, 2, 0, 1, 0);
        twiceIs(laid(0, 5, 5, 5, 5), 0, 1, 0, 1, 0);
        twiceIs(laid(1, 1, 2, 9, 3, 3, 9, 0, 1), 37, 4, -1, 2, 1);
        twiceIs(laid(2, -10000, 10000), 200000000, 1, -20000, 1, 0);
        twiceIs(laid(2, 10000, -10000, 10000, -10000), 200000000, 1, 20000, 1, 0);
        ToldFigures x = laid(2, 1, 2, 3);
        due("half a pair", x.twice(0, 0), LEAST_LONG + 3);
        due("no pairs", laid(2).twice(0, 4), LEAST_LONG + 3);
        due("10001", laid(2, 10001, 0).twice(0, 0), LEAST_LONG + 3);
        due("-10001", laid(2, 0, -10001).twice(0, 0), LEAST_LONG + 3);
        due("twice(0, 5)", x.twice(0, 5), LEAST_LONG + 2);
        due("twice(0, -1)", x.twice(0, -1), LEAST_LONG + 2);
        due("twice(4, 0)", x.twice(4, 0), LEAST_LONG + 2);
        due("twice(1, 0)", x.twice(1, 0), LEAST_LONG + 11);
        due("count(8)", x.count(8), 1);
    }

    // ---- 27 to 34: sheets

    private static void sheet() {
        ToldFigures x = laid(2, 7);
        due("sheet(0, 2, 60)", x.sheet(0, 2, 60), 60);
        due("a new row is of 0s", x.get(0, 2, 0), 0);
        due("item 59", x.get(0, 2, 59), 0);
        due("sheet(0, 2, 61)", x.sheet(0, 2, 61), BAD);
        due("sheet(4, 2, 1)", x.sheet(4, 2, 1), BAD);
        due("sheet(-1, 2, 1)", x.sheet(-1, 2, 1), BAD);
        due("sheet(0, 3, 1)", x.sheet(0, 3, 1), BAD);
        due("sheet(0, -1, -1)", x.sheet(0, -1, -1), BAD);
        due("count(8)", x.count(8), 0);
        due("sheet(0, 0, -1)", x.sheet(0, 0, -1), SIZE);
        due("count(8)", x.count(8), 5);
        due("sheet(0, 0, least)", x.sheet(0, 0, Integer.MIN_VALUE), SIZE);
        due("it is as it was", x.lay(0, 2, 59, 1), 1);
        due("sheet(3, 0, 0)", x.sheet(3, 0, 0), 0);
        due("count(4)", x.count(4), 2);
    }

    private static void lose() {
        ToldFigures x = laid(2, 7, 8);
        due("lose(0)", x.lose(0), 2);
        due("lose(0) again", x.lose(0), NULL);
        due("lose(4)", x.lose(4), BAD);
        due("lose(-1)", x.lose(-1), BAD);
        due("count(4)", x.count(4), 0);
        x.sheet(0, 2, 2);
        due("what was lost is gone", x.get(0, 2, 0), 0);
    }

    private static void lay() {
        ToldFigures x = laid(0, 0, 0);
        due("lay(0, 0, 0, 200)", x.lay(0, 0, 0, 200), 1);
        due("a byte", x.get(0, 0, 0), -56);
        due("lay(0, 0, 2, 1)", x.lay(0, 0, 2, 1), INDEX);
        due("lay(0, 0, -1, 1)", x.lay(0, 0, -1, 1), INDEX);
        due("lay(0, 1, 9, 1)", x.lay(0, 1, 9, 1), CAST);
        due("lay(1, 1, 9, 1)", x.lay(1, 1, 9, 1), NULL);
        due("lay(0, 3, 0, 1)", x.lay(0, 3, 0, 1), BAD);
        due("lay(4, 0, 0, 1)", x.lay(4, 0, 0, 1), BAD);
        x.sheet(0, 1, 2);
        due("lay(0, 1, 1, 40000)", x.lay(0, 1, 1, 40000), 1);
        due("a short", x.get(0, 1, 1), -25536);
        x.sheet(0, 2, 2);
        x.lay(0, 2, 1, -2000000000);
        due("an int", x.get(0, 2, 1), -2000000000);
    }

    private static void get() {
        ToldFigures x = laid(1, 5, 6);
        due("get(0, 1, 1)", x.get(0, 1, 1), 6);
        due("get(4, 1, 0)", x.get(4, 1, 0), LEAST_INT);
        due("get(0, 3, 0)", x.get(0, 3, 0), LEAST_INT);
        due("get(0, -1, 0)", x.get(0, -1, 0), LEAST_INT);
        due("BAD leaves count(8)", x.count(8), 0);
        due("get(1, 1, 0)", x.get(1, 1, 0), LEAST_INT);
        due("NULL", x.count(8), 1);
        due("get(0, 1, 2)", x.get(0, 1, 2), LEAST_INT);
        due("INDEX", x.count(8), 2);
        due("get(0, 0, 2)", x.get(0, 0, 2), LEAST_INT);
        due("CAST ahead of INDEX", x.count(8), 3);
        due("get(0, 1, -1)", x.get(0, 1, -1), LEAST_INT);
        due("INDEX below 0", x.count(8), 2);
    }

    private static void copy() {
        ToldFigures x = laid(2, 1, 2, 3, 4, 5);
        due("copy onto itself", x.copy(0, 0, 0, 1, 4), 1);
        int[] moved = {1, 1, 2, 3, 4};
        for (int i = 0; i < 5; i++) {
            due("item " + i, x.get(0, 2, i), moved[i]);
        }
        x.copy(0, 1, 0, 0, 4);
        due("and back", x.get(0, 2, 3), 4);
        due("copy of none at the end", x.copy(0, 5, 0, 5, 0), 1);
        due("copy of none beyond", x.copy(0, 6, 0, 0, 0), INDEX);
        due("copy(0, 0, 0, 2, 4)", x.copy(0, 0, 0, 2, 4), INDEX);
        due("copy(0, 2, 0, 0, 4)", x.copy(0, 2, 0, 0, 4), INDEX);
        due("copy(0, -1, 0, 0, 1)", x.copy(0, -1, 0, 0, 1), INDEX);
        due("copy(0, 0, 0, -1, 1)", x.copy(0, 0, 0, -1, 1), INDEX);
        due("copy(0, 0, 0, 0, -1)", x.copy(0, 0, 0, 0, -1), INDEX);
        due("copy of greatest", x.copy(0, 1, 0, 1, Integer.MAX_VALUE), INDEX);
        due("copy from greatest", x.copy(0, Integer.MAX_VALUE, 0, 0, 1), INDEX);
        due("copy from LOST", x.copy(1, 0, 0, 0, 1), NULL);
        due("copy to LOST", x.copy(0, 9, 1, 0, 1), NULL);
        due("copy(4, 0, 0, 0, 1)", x.copy(4, 0, 0, 0, 1), BAD);
        due("copy(1, 0, 4, 0, 1)", x.copy(1, 0, 4, 0, 1), BAD);
        x.sheet(1, 1, 5);
        due("unlike forms", x.copy(0, 9, 1, 0, 1), STORE);
        x.sheet(1, 2, 5);
        due("copy to another", x.copy(0, 1, 1, 2, 2), 1);
        due("it came", x.get(1, 2, 3), 3);
        due("the rest stays", x.get(1, 2, 4), 0);
    }

    private static void write() {
        ToldFigures x = laid(0, 7, 7);
        due("write(0)", x.write(0), 2);
        due("5000000 as a byte", x.get(0, 0, 0), 64);
        due("4100000 as a byte", x.get(0, 0, 1), -96);
        x.sheet(0, 1, 2);
        x.write(0);
        due("5000000 as a short", x.get(0, 1, 0), 19264);
        due("4100000 as a short", x.get(0, 1, 1), -28768);
        layOn(x, 0, 2, 7, 7);
        typeInto(x, "c0=5");
        due("write(0) of one row", x.write(0), 1);
        due("the row", x.get(0, 2, 0), 5000000);
        due("the rest stays", x.get(0, 2, 1), 7);
        x.type(';');
        due("write(0) with a FAULT", x.write(0), NOT);
        due("write(1) with a FAULT", x.write(1), NULL);
        due("write(4)", x.write(4), BAD);
        due("write(-1)", x.write(-1), BAD);
        x.sheet(0, 2, 60);
        x.wipe();
        due("write of sixty", x.write(0), 60);
        due("write to none", x.sheet(0, 2, 0) + x.write(0), 0);
    }

    private static void count() {
        ToldFigures x = typed(7, "l=0;g=6");
        x.set(1, 3);
        x.sheet(1, 0, 1);
        x.sheet(3, 0, 1);
        int[] counts = {7, 3, 7, 3, 2, BAD, BAD, BAD, 0, BAD};
        for (int what = 0; what < counts.length; what++) {
            due("count(" + what + ")", x.count(what), counts[what]);
        }
        due("count(-1)", x.count(-1), BAD);
        x.type('!');
        due("count(3) with a FAULT", x.count(3), 0);
    }

    /** A finding stays the latest one until the next: no refusal of another kind and no answer ends it. */
    private static void findings() {
        ToldFigures x = laid(2, 1);
        x.lose(1);
        due("NULL", x.count(8), 1);
        x.lay(0, 2, 1, 1);
        due("INDEX", x.count(8), 2);
        x.lay(0, 1, 0, 1);
        due("CAST", x.count(8), 3);
        x.sheet(1, 1, 1);
        x.copy(0, 0, 1, 0, 1);
        due("STORE", x.count(8), 4);
        x.sheet(0, 0, -1);
        due("SIZE", x.count(8), 5);
        x.lose(9);
        x.lay(0, 2, 0, 1);
        x.wipe();
        due("still SIZE", x.count(8), 5);
    }

    private static long mixed(long... told) {
        long h = 17;
        for (long x : told) {
            h = 31 * h + x;
        }
        return h;
    }

    private static void digest() {
        due("digest() of a new object", new ToldFigures().digest(),
                mixed(5, 6, 0, 0, 0, -1, 0, 462, 0, 0, 0));
        due("digest() with claims", typed(5, "c0=5;l=1").digest(),
                mixed(5, 6, 8, 3, 0, -1, 2, 4, 0, 5, 0, 0, 6, 1, -1, 0, 0, 0, 0, 1, -1));
        ToldFigures x = typed(5, "c0=5;");
        x.sheet(2, 0, 0);
        due("digest() with a FAULT", x.digest(), mixed(5, 6, 5, 0, 1, 5, -3, -3, -3, -3, -3));
        due("digest() changes nothing", x.digest(), mixed(5, 6, 5, 0, 1, 5, -3, -3, -3, -3, -3));
    }

    // ---- edges of what is held inside

    /** What stood in a longer text, sheet or row table must not be read again in a shorter one. */
    private static void nothingIsLeftOver() {
        ToldFigures x = typed(5, "m=12t;l=0");
        x.wipe();
        typeInto(x, "m=1");
        due("number of a shorter text", x.claim(0, 2), 1);
        x.wipe();
        typeInto(x, "m=12");
        due("rule of a shorter text", x.claim(0, 4), 0);
        due("claims() of a shorter text", x.claims(), 1);
        due("count(3) of a shorter text", x.count(3), 1);
        x.type(';');
        due("fault() of a shorter text", x.fault(), 5);
        x.wipe();
        x.type('m');
        due("fault() of one byte", x.fault(), 1);
        x.wipe();
        typeInto(x, "l=0;g=0");
        x.wipe();
        typeInto(x, "l=0;");
        due("fault() of a shorter text, at its end", x.fault(), 4);
        x.wipe();
        x.set(0, 9);
        due("can() of nine", x.can(), 5005);
        x.set(0, 1);
        due("can() of one", x.can(), 7);
        due("ways() of one", x.ways(), 7);
        due("bound(-1, 1) of one", x.bound(-1, 1), 6);
        due("ranked(7) of one", x.ranked(7), NONE);
        x.sheet(3, 2, 60);
        due("write of one", x.write(3), 7);
        due("the last of them", x.get(3, 2, 6), 1);
        due("nothing behind the last", x.get(3, 2, 7), 0);
        layOn(x, 0, 2, 1, 2, 3, 4, 5, 200);
        layOn(x, 1, 2, 1, 2, 3, 4, 5, 200);
        x.sheet(0, 2, 2);
        due("shares of a shorter sheet", x.share(0, 0, 1), 0);
        due("last 0 of a shorter sheet", x.last(0, 0), 2);
        due("get beyond a shorter sheet", x.get(0, 2, 2), LEAST_INT);
        due("write to a shorter sheet", x.write(0), 2);
        x.sheet(0, 2, 5);
        due("nothing behind it", x.get(0, 2, 2), 0);
    }

    private static void fullSheets() {
        ToldFigures x = new ToldFigures();
        int[] rising = new int[60];
        for (int i = 0; i < 60; i++) {
            rising[i] = 5 * i - 100;
        }
        layOn(x, 0, 1, rising);
        x.sheet(1, 1, 60);
        due("copy of sixty", x.copy(0, 0, 1, 0, 60), 1);
        x.lay(1, 1, 0, 7);
        copiesAre(x, 59, 1, 0, 5);
        due("twice of sixty", x.twice(0, 2), -5);
        due("twice of sixty, below", x.twice(0, 1), 2);
        x.sheet(2, 0, 60);
        due("shares of sixty 0s", x.shares(2, 0, 0), 0);
        due("the least of them", x.shares(2, 2, 1), NONE);
        x.lay(2, 0, 59, 100);
        due("shares of 0s and 100", x.shares(2, 0, 0), 300);
        x.lay(2, 0, 59, 80);
        due("the least of 0s and 80: 81 and twenty 1s", x.shares(2, 2, 1), 101);
        due("last 9 of 12", laid(2, 9, 9, 9, 9, 9, 9, 9, 9, 9, 9, 9, 9).lastChance(0), 0);
    }

    private static void fullRows() {
        ToldFigures x = typed(9, "");
        due("ranked(5004)", x.ranked(5004), 9);
        due("ranked(5005)", x.ranked(5005), NONE);
        due("ask() of nine", x.ask(), 0);
        due("bound(0, 1) of nine", x.bound(0, 1), 9);
        due("bound(-1, 1) of nine", x.bound(-1, 1), 54);
        typeInto(x, "c0=0;c1=0;c2=0;c3=0;c4=0;c5=0;c6=0;l=0;g=6;o=3");
        due("fewest() of ten", x.fewest(), 1 + 8 + 64);
        due("quarrel() of ten", x.quarrel(), 1 + 128);
        due("alone() of ten", x.alone(), 0);
        ToldFigures y = typed(9, "h0=0%;h1=101%;l=0;g=6");
        due("alone() of shares", y.alone(), 3);
    }
}
