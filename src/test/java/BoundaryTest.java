/**
 * The sentences of the document that name a boundary, one by one and in its order, each with the last
 * values that are taken, the first that are not, the empty and the full. The sentence that is tested
 * stands ahead of each answer that is not as due. What is refused, and in which order, is RefusalsTest's.
 */
public final class BoundaryTest {
    private static final int NONE = -1, BAD = -2, NOT = -3, FULL = -4;
    private static final int LEAST = Integer.MIN_VALUE, GREATEST = Integer.MAX_VALUE;
    private static final int[] PLACES = {1000000, 100000, 10000, 1000, 100, 10, 1};
    private static final String LETTERS = "msvdchlgo";
    private static final String FIGURES = "0123456789";
    private static final String MARKS = "0123456";
    private static final String RULES = "uet";
    private static final String NINE = "l=0;l=0;l=0;l=0;l=0;l=0;l=0;l=0;l=0";
    private static final String TEN = NINE + ";l=0";
    private static final String TEN_LONGEST = "m=12.34u;s=12.34e;v=12.34t;d=12.34u;h0=100%e;"
            + "h1=100%t;m=12.34e;h6=100%u;s=12.34t;v=12.34u";
    private static final Check CHECK = new Check("BoundaryTest");
    private static String sentence = "";

    public static void main(String[] args) {
        terms();
        claimTexts();
        holding();
        whatCanBe();
        shares();
        figures();
        copiesAndTwice();
        sheets();
        wholeObject();
        askedAnew();
        CHECK.end();
    }

    private static void terms() {
        newObjects();
        marksOfARow();
        numbersOfRows();
        topOfMarks();
        orderOfRows();
        setTakes();
    }

    private static void claimTexts() {
        bytesOfClaims();
        bytesThatAreTyped();
        wiping();
        firstBytes();
        bytesOfValues();
        bytesOfCountsAndShares();
        bytesOfEnds();
        tenParts();
        firstFaultStays();
        numbersThatAreTold();
        claimNumbers();
        believedBits();
        believedWhenTheTextChanges();
    }

    private static void holding() {
        meanAtHalves();
        meanAtEnds();
        spreadOfOneMark();
        spreadAtHalves();
        spreadAtEnds();
        spreadIsExact();
        middles();
        shareClaims();
        countClaims();
        endClaims();
        commonestClaims();
        whichHold();
    }

    private static void whatCanBe() {
        rowsThereAre();
        noneAndAllCanBe();
        rankedEnds();
        waysEnds();
        boundsOfMarks();
        boundsOfNone();
        aloneEnds();
        fewestEnds();
        fewestOfLikeOnes();
        quarrelEnds();
        quarrelOfLikeOnes();
        askEnds();
        askOfLikeOnes();
    }

    private static void shares() {
        sharesOfNoItems();
        sharesOfOneItem();
        sharesAtTheEndsOfN();
        sharesAtHalves();
        sharesOfSixty();
        hundredths();
    }

    private static void figures() {
        lastFigures();
        lastChanceEnds();
        firstFigures();
        firstChanceEnds();
        firstChanceOfEachFigure();
    }

    private static void copiesAndTwice() {
        copiesOfOne();
        copiesOfSixty();
        copiesOfLikeLength();
        stepsOfAnyNumber();
        twiceOfOnePair();
        twiceOfThirtyPairs();
        worstOfLikeOnes();
        fractions();
    }

    private static void sheets() {
        sheetsThereAre();
        itemsOfASheet();
        aSheetMadeAnew();
        losing();
        lowestBits();
        leastIntAsAnItem();
        copyEnds();
        copyWithinASheet();
        writeEnds();
        writeLowestBits();
    }

    private static void wholeObject() {
        counts();
        latestFinding();
        digestOfAnswers();
        digestWraps();
        objectsApart();
        call512();
    }

    /** One object asked twice, with a change between: nothing of before is told again. */
    private static void askedAnew() {
        textsAnew();
        claimsAnew();
        rowsAnew();
        fewerRowsAnew();
        quarrelsAnew();
        asksAnew();
        chancesAnew();
        copiesAnew();
        twiceAnew();
    }

    // ---- helpers

    private static void of(String words) {
        sentence = words;
    }

    private static void due(String call, long got, long want) {
        CHECK.due("[" + sentence + "] " + call, got, want);
    }

    private static ToldFigures typed(int n, String text) {
        ToldFigures x = new ToldFigures();
        x.set(0, n);
        return typedOn(x, text);
    }

    private static ToldFigures typedOn(ToldFigures x, String text) {
        for (char b : text.toCharArray()) {
            x.type(b);
        }
        return x;
    }

    private static ToldFigures laid(int form, int... items) {
        return laidOn(new ToldFigures(), 0, form, items);
    }

    private static ToldFigures laidOn(ToldFigures x, int s, int form, int... items) {
        x.sheet(s, form, items.length);
        for (int i = 0; i < items.length; i++) {
            x.lay(s, form, i, items[i]);
        }
        return x;
    }

    private static int[] alike(int many, int item) {
        int[] items = new int[many];
        java.util.Arrays.fill(items, item);
        return items;
    }

    /** A row's number from its marks. */
    private static int row(int... marks) {
        int number = 0;
        for (int mark : marks) {
            number += PLACES[mark];
        }
        return number;
    }

    // ---- 1: a row, its marks, their order

    private static void newObjects() {
        of("No CLAIMS; all SHEETS are LOST.");
        ToldFigures x = new ToldFigures();
        due("count(2)", x.count(2), 0);
        due("claims()", x.claims(), 0);
        due("count(3)", x.count(3), 0);
        due("count(4)", x.count(4), 0);
        due("count(8)", x.count(8), 0);
        for (int s = 0; s < 4; s++) {
            due("get(" + s + ", 0, 0)", x.get(s, 0, 0), LEAST);
            due("count(8) of " + s, x.count(8), 1);
            due("lose(" + s + ")", x.lose(s), -11);
        }
    }

    private static void marksOfARow() {
        of("A ROW has n MARKS (1 to 9; 5 at first)");
        ToldFigures x = new ToldFigures();
        due("5 at first", x.count(0), 5);
        due("put of 5", x.put(row(0, 1, 2, 3, 4)), 0);
        due("set(0, 10)", x.set(0, 10), BAD);
        due("set(0, 0)", x.set(0, 0), BAD);
        due("n is still 5", x.count(0), 5);
        for (int n = 1; n <= 9; n++) {
            ToldFigures y = typed(n, "");
            due("n is " + n, y.count(0), n);
            for (int mark = 0; mark <= 6; mark++) {
                for (int many = 0; many <= 9; many++) {
                    due(many + " of mark " + mark, y.put(many * PLACES[mark]), many == n ? 0 : BAD);
                }
            }
        }
    }

    private static void numbersOfRows() {
        of("how many there are of MARKS 0 to 6, in figures from the highest one on (seven figures)");
        due("1111111 of 7", typed(7, "").put(1111111), 0);
        due("1111111 of 6", typed(6, "").put(1111111), BAD);
        due("1111111 of 8", typed(8, "").put(1111111), BAD);
        due("9000000 of 9", typed(9, "").put(9000000), 0);
        due("9 of 9", typed(9, "").put(9), 0);
        due("9000001 of 9", typed(9, "").put(9000001), BAD);
        due("an eighth figure", typed(9, "").put(18000000), BAD);
        due("an eighth figure and no mark", typed(1, "").put(10000000), BAD);
        due("an eighth figure ahead of a row", typed(1, "").put(10000001), BAD);
        due("below 0", typed(1, "").put(-1), BAD);
        due("no marks", typed(1, "").put(0), BAD);
        due("the greatest int", typed(9, "").put(GREATEST), BAD);
        due("the least int", typed(9, "").put(LEAST), BAD);
        due("seven figures and more marks than any", typed(9, "").put(9999999), BAD);
        ToldFigures x = typed(3, "c0=1;c1=0;c2=0;c3=0;c4=0;c5=1;c6=1");
        due("which figure is which mark", x.put(1000011), 127);
    }

    private static void topOfMarks() {
        of("TOP (0 to 6; 6 at first): the greatest MARK that may be.");
        ToldFigures x = new ToldFigures();
        due("6 at first", x.count(1), 6);
        for (int top = 0; top <= 6; top++) {
            x.set(1, top);
            for (int mark = 0; mark <= 6; mark++) {
                due("TOP " + top + ", mark " + mark, x.put(5 * PLACES[mark]), mark <= top ? 0 : BAD);
                due("TOP " + top + ", one mark " + mark, x.put(4 * PLACES[0] + PLACES[mark]), mark <= top ? 0 : BAD);
            }
        }
        of("BAD: it has not n MARKS, or some above TOP");
        x.set(1, 0);
        due("all at TOP 0", x.put(5000000), 0);
        due("one above TOP 0", x.put(4100000), BAD);
        due("the greatest bound at TOP 0", x.bound(1, 1), 0);
    }

    private static void orderOfRows() {
        of("ROWS in order: by how many 0s, the more ahead, then 1s, ...");
        ToldFigures x = typed(3, "");
        int i = 0;
        for (int a = 0; a <= 6; a++) {
            for (int b = a; b <= 6; b++) {
                for (int c = b; c <= 6; c++) {
                    due("ranked(" + i + ")", x.ranked(i), row(a, b, c));
                    i++;
                }
            }
        }
        due("no more", x.ranked(i), NONE);
        x.set(1, 1);
        for (int k = 0; k <= 3; k++) {
            due("ranked(" + k + ") up to 1", x.ranked(k), (3 - k) * PLACES[0] + k * PLACES[1]);
        }
        due("no more up to 1", x.ranked(4), NONE);
    }

    private static void setTakes() {
        of("n (what = 0), TOP (1): what it was.");
        ToldFigures x = new ToldFigures();
        due("set(0, 1)", x.set(0, 1), 5);
        due("set(0, 9)", x.set(0, 9), 1);
        due("set(0, 9) again", x.set(0, 9), 9);
        due("set(1, 0)", x.set(1, 0), 6);
        due("set(1, 6)", x.set(1, 6), 0);
        due("set(1, 6) again", x.set(1, 6), 6);
        due("n is left by TOP", x.count(0), 9);
        due("rows() anew", x.rows(), 5005);
        x.set(0, 1);
        due("rows() anew again", x.rows(), 7);
        x.set(1, 0);
        due("rows() anew at last", x.rows(), 1);
    }

    // ---- the text of claims

    private static void bytesOfClaims() {
        of("CLAIMS are a text of up to 100 bytes");
        ToldFigures x = typedOn(new ToldFigures(), TEN_LONGEST);
        due("bytes of the ten longest", x.count(2), 89);
        for (int i = 90; i <= 99; i++) {
            due("byte " + i, x.type(';'), i);
        }
        due("byte 100", x.type(255), 100);
        due("count(2)", x.count(2), 100);
        due("byte 101", x.type('m'), FULL);
        due("byte 101, another", x.type(0), FULL);
        due("count(2) still", x.count(2), 100);
        due("fault() still", x.fault(), 89);
        due("wipe()", x.wipe(), 100);
        due("type behind wipe()", x.type('m'), 1);
        for (int i = 2; i <= 100; i++) {
            x.type('m');
        }
        due("full again", x.type('m'), FULL);
    }

    private static void bytesThatAreTyped() {
        of("A byte (0 to 255) comes behind CLAIMS: how many.");
        for (int b = 0; b <= 255; b++) {
            ToldFigures x = new ToldFigures();
            due("type(" + b + ")", x.type(b), 1);
            due("type(" + b + ") again", x.type(b), 2);
        }
        ToldFigures x = new ToldFigures();
        due("type(-1)", x.type(-1), BAD);
        due("type(256)", x.type(256), BAD);
        due("'m' and 256", x.type('m' + 256), BAD);
        due("nothing came", x.count(2), 0);
    }

    private static void wiping() {
        of("CLAIMS are empty: how many bytes they had.");
        ToldFigures x = new ToldFigures();
        due("wipe() of none", x.wipe(), 0);
        typedOn(x, "c0=5;!");
        due("wipe() with a FAULT", x.wipe(), 6);
        due("wipe() again", x.wipe(), 0);
        due("fault()", x.fault(), NONE);
        due("claims()", x.claims(), 0);
        due("can()", x.can(), 462);
        typedOn(x, "c0=5");
        due("only the new text", x.claims(), 1);
        due("can() of the new text", x.can(), 1);
    }

    /** Behind a text that is well so far: which of all bytes can go on; a FAULT is at just that place. */
    private static void goesOn(String text, String bytes) {
        for (int b = 0; b <= 255; b++) {
            ToldFigures x = typedOn(new ToldFigures(), text);
            x.type(b);
            boolean well = x.fault() == NONE || x.fault() == text.length() + 1;
            boolean faultIsHere = x.fault() == text.length();
            String call = "fault() of " + text + " and byte " + b;
            due(call, faultIsHere ? 1 : 0, bytes.indexOf(b) < 0 ? 1 : 0);
            due(call + " or behind", well || faultIsHere ? 1 : 0, 1);
        }
    }

    private static void wholeOrNot(String text, boolean whole) {
        due("fault() of " + text, typedOn(new ToldFigures(), text).fault(), whole ? NONE : text.length());
    }

    private static void firstBytes() {
        of("The FAULT is the place of the first byte with which it cannot go on (an empty text is well ..");
        wholeOrNot("", true);
        goesOn("", LETTERS);
        for (char letter : LETTERS.toCharArray()) {
            wholeOrNot("" + letter, false);
            goesOn("" + letter, letter == 'c' || letter == 'h' ? MARKS : "=");
        }
        of("parts with ; between them");
        for (String part : new String[] {"m=1", "m=1.5", "m=12.34u", "c0=1", "c0=12", "h0=1%", "h0=1%t", "l=0", "g=6"}) {
            wholeOrNot(part, true);
            wholeOrNot(part + ";", false);
            goesOn(part + ";", LETTERS);
        }
    }

    private static void bytesOfValues() {
        of("V one or two figures, perhaps . and one or two figures behind. Behind V .. a RULE");
        for (char letter : "msvd".toCharArray()) {
            String start = letter + "=";
            wholeOrNot(start, false);
            goesOn(start, FIGURES);
            wholeOrNot(start + "0", true);
            goesOn(start + "0", FIGURES + "." + RULES + ";");
            wholeOrNot(start + "09", true);
            goesOn(start + "09", "." + RULES + ";");
            wholeOrNot(start + "9.", false);
            goesOn(start + "9.", FIGURES);
            goesOn(start + "99.", FIGURES);
            wholeOrNot(start + "9.9", true);
            goesOn(start + "9.9", FIGURES + RULES + ";");
            wholeOrNot(start + "99.99", true);
            goesOn(start + "99.99", RULES + ";");
            goesOn(start + "1u", ";");
            goesOn(start + "12e", ";");
            goesOn(start + "1.2t", ";");
            goesOn(start + "12.34u", ";");
        }
    }

    private static void bytesOfCountsAndShares() {
        of("N one or two figures");
        goesOn("c0", "=");
        goesOn("c6", "=");
        wholeOrNot("c6=", false);
        goesOn("c6=", FIGURES);
        wholeOrNot("c6=9", true);
        goesOn("c6=9", FIGURES + ";");
        wholeOrNot("c6=99", true);
        goesOn("c6=99", ";");
        of("P one to three [figures] .. Behind .. % there may be a RULE");
        goesOn("h0", "=");
        goesOn("h6", "=");
        wholeOrNot("h6=", false);
        goesOn("h6=", FIGURES);
        wholeOrNot("h6=9", false);
        goesOn("h6=9", FIGURES + "%");
        wholeOrNot("h6=99", false);
        goesOn("h6=99", FIGURES + "%");
        wholeOrNot("h6=999", false);
        goesOn("h6=999", "%");
        wholeOrNot("h6=999%", true);
        goesOn("h6=999%", RULES + ";");
        goesOn("h6=9%", RULES + ";");
        goesOn("h6=9%u", ";");
        goesOn("h6=99%e", ";");
        goesOn("h6=999%t", ";");
    }

    private static void bytesOfEnds() {
        of("K is a figure 0 to 6 .. (K above 6 is such a byte.)");
        for (String start : new String[] {"c", "h", "l=", "g=", "o="}) {
            wholeOrNot(start, false);
            goesOn(start, MARKS);
        }
        for (String part : new String[] {"l=0", "l=6", "g=0", "g=6", "o=0", "o=6"}) {
            wholeOrNot(part, true);
            goesOn(part, ";");
        }
    }

    private static void tenParts() {
        of("10 at most .. an eleventh part: the ; ahead of it");
        due("nine", typedOn(new ToldFigures(), NINE).claims(), 9);
        wholeOrNot(NINE + ";", false);
        goesOn(NINE + ";", LETTERS);
        due("ten", typedOn(new ToldFigures(), TEN).claims(), 10);
        wholeOrNot(TEN, true);
        goesOn(TEN, "");
        due("the ; behind ten", typedOn(new ToldFigures(), TEN + ";").fault(), 39);
        due("eleven", typedOn(new ToldFigures(), TEN + ";l=0").fault(), 39);
        due("ten and no letter", typedOn(new ToldFigures(), TEN + ";x").fault(), 39);
        due("the ten longest", typedOn(new ToldFigures(), TEN_LONGEST).claims(), 10);
        due("the ten longest and a ;", typedOn(new ToldFigures(), TEN_LONGEST + ";").fault(), 89);
        due("ten, the last not whole", typedOn(new ToldFigures(), NINE + ";m=").fault(), 38);
        due("ten, a V that goes on", typedOn(new ToldFigures(), NINE + ";m=1.25e").claims(), 10);
    }

    private static void firstFaultStays() {
        of("the first byte with which it cannot go on");
        ToldFigures x = typedOn(new ToldFigures(), "l=0;x");
        due("at once", x.fault(), 4);
        typedOn(x, ";l=0;y");
        due("whatever comes behind", x.fault(), 4);
        due("fault() of ;", typedOn(new ToldFigures(), ";").fault(), 0);
        due("fault() of ;l=0", typedOn(new ToldFigures(), ";l=0").fault(), 0);
        due("fault() of l=0;;l=0", typedOn(new ToldFigures(), "l=0;;l=0").fault(), 4);
        due("fault() of c7=1", typedOn(new ToldFigures(), "c7=1").fault(), 1);
        due("fault() of m=1.;l=0", typedOn(new ToldFigures(), "m=1.;l=0").fault(), 4);
        due("fault() of h0=50;l=0", typedOn(new ToldFigures(), "h0=50;l=0").fault(), 5);
        due("fault() of c0=;l=0", typedOn(new ToldFigures(), "c0=;l=0").fault(), 3);
        due("fault() at 99", typedOn(new ToldFigures(), TEN_LONGEST + "mmmmmmmmmmm").fault(), 89);
        of("How many CLAIMS. NOT.");
        due("claims() of none", new ToldFigures().claims(), 0);
        due("claims() of one", typedOn(new ToldFigures(), "l=0").claims(), 1);
        due("claims() with a FAULT", x.claims(), NOT);
    }

    private static void told(String part, int... told) {
        ToldFigures x = typedOn(new ToldFigures(), "l=3;" + part);
        for (int what = 0; what < told.length; what++) {
            due("claim(1, " + what + ") of " + part, x.claim(1, what), told[what]);
        }
    }

    private static void numbersThatAreTold() {
        of("0 what it is .., 1 K (NONE of m, s, v, d), 2 the number behind = without its point, 3 .., 4 the RULE");
        told("m=0", 0, NONE, 0, 0, 0);
        told("m=99.99t", 0, NONE, 9999, 2, 2);
        told("s=00.00e", 1, NONE, 0, 2, 1);
        told("v=99u", 2, NONE, 99, 0, 0);
        told("d=9.0", 3, NONE, 90, 1, 0);
        told("d=09.05e", 3, NONE, 905, 2, 1);
        told("c0=0", 4, 0, 0, 0, 0);
        told("c6=99", 4, 6, 99, 0, 0);
        told("h0=0%", 5, 0, 0, 0, 0);
        told("h6=999%t", 5, 6, 999, 0, 2);
        told("h3=007%e", 5, 3, 7, 0, 1);
        of("(of l, g, o: NONE)");
        told("l=0", 6, 0, NONE, 0, 0);
        told("g=6", 7, 6, NONE, 0, 0);
        told("o=0", 8, 0, NONE, 0, 0);
        of("u without");
        for (String part : new String[] {"m=1", "m=1.2", "s=12.34", "h0=5%"}) {
            ToldFigures x = typedOn(new ToldFigures(), part + "t;" + part + ";" + part + "u");
            due("RULE told", x.claim(0, 4), 2);
            due("RULE not told", x.claim(1, 4), 0);
            due("RULE u", x.claim(2, 4), 0);
        }
    }

    private static void claimNumbers() {
        of("CLAIMS have numbers from 0 on.");
        ToldFigures x = typedOn(new ToldFigures(), "l=0;l=1;l=2;l=3;l=4;l=5;l=6;l=5;l=4;l=3");
        int[] marks = {0, 1, 2, 3, 4, 5, 6, 5, 4, 3};
        for (int i = 0; i < 10; i++) {
            due("claim(" + i + ", 1)", x.claim(i, 1), marks[i]);
        }
        due("claim(10, 1)", x.claim(10, 1), BAD);
        due("claim(-1, 1)", x.claim(-1, 1), BAD);
        ToldFigures y = typedOn(new ToldFigures(), "l=6");
        due("the only one", y.claim(0, 1), 6);
        due("one more", y.claim(1, 1), BAD);
        y.wipe();
        due("of none", y.claim(0, 1), BAD);
    }

    private static void believedBits() {
        of("BELIEVED (bits of CLAIMS there are): what they were.");
        for (int many = 0; many <= 10; many++) {
            ToldFigures x = typedOn(new ToldFigures(), many == 0 ? "" : TEN.substring(0, 4 * many - 1));
            int all = (1 << many) - 1;
            due("all at first of " + many, x.count(3), all);
            due("one bit more of " + many, x.believe(all + 1), BAD);
            due("all and one bit more of " + many, x.believe(2 * all + 1), BAD);
            due("none of " + many, x.believe(0), all);
            due("none again of " + many, x.believe(0), 0);
            due("all of " + many, x.believe(all), 0);
            due("all again of " + many, x.believe(all), all);
            due("below 0 of " + many, x.believe(-1), BAD);
            due("the sign alone of " + many, x.believe(LEAST), BAD);
            due("count(3) of " + many, x.count(3), all);
        }
        of("the others matter nothing");
        ToldFigures x = typed(5, "c0=9;l=0;g=0");
        x.believe(6);
        due("can()", x.can(), 1);
        due("fewest()", x.fewest(), 0);
        due("quarrel()", x.quarrel(), 0);
        x.believe(0);
        due("can() of none BELIEVED", x.can(), 462);
        due("ways() of none BELIEVED", x.ways(), 16807);
    }

    private static void believedWhenTheTextChanges() {
        of("(all at first and whenever the text changes)");
        ToldFigures x = typedOn(new ToldFigures(), "c0=1;l=0");
        x.believe(1);
        x.set(0, 9);
        x.set(1, 3);
        due("set leaves it", x.count(3), 1);
        x.believe(0);
        x.type(256);
        x.believe(4);
        due("refused calls leave it", x.count(3), 0);
        x.wipe();
        due("wipe() changes the text", x.count(3), 0);
        typedOn(x, "c0=1");
        x.believe(0);
        x.type('0');
        due("a figure changes the text", x.count(3), 1);
        x.believe(0);
        x.type(';');
        due("0 with a FAULT", x.count(3), 0);
        typedOn(x, "l=0");
        due("well again", x.count(3), 3);
    }

    // ---- a claim holds for a row

    /** Which of the claims hold, one by one: what is told behind each is 1 or 0. */
    private static void holds(int number, Object... claims) {
        int n = 0;
        for (int place : PLACES) {
            n += number / place % 10;
        }
        for (int i = 0; i < claims.length; i += 2) {
            due(claims[i] + " for " + number, typed(n, (String) claims[i]).put(number), (int) claims[i + 1]);
        }
    }

    private static void meanAtHalves() {
        of("MEAN: the sum by n, rounded to as many figures behind as V has .. halfway by the RULE");
        holds(row(0, 1), "m=1", 1, "m=0", 0, "m=0e", 1, "m=1e", 0, "m=0t", 1, "m=1t", 0);
        holds(row(1, 2), "m=2", 1, "m=1", 0, "m=2e", 1, "m=1e", 0, "m=1t", 1, "m=2t", 0);
        holds(row(0, 0, 0, 1), "m=0.3", 1, "m=0.2", 0, "m=0.2e", 1, "m=0.3e", 0, "m=0.2t", 1, "m=0.3t", 0);
        holds(row(0, 0, 1, 2), "m=0.8", 1, "m=0.7", 0, "m=0.8e", 1, "m=0.7e", 0, "m=0.7t", 1, "m=0.8t", 0);
        int eighth = row(0, 0, 0, 0, 0, 0, 0, 1);
        holds(eighth, "m=0.13", 1, "m=0.12", 0, "m=0.12e", 1, "m=0.13e", 0, "m=0.12t", 1, "m=0.13t", 0);
        int threeEighths = row(0, 0, 0, 0, 0, 0, 0, 3);
        holds(threeEighths, "m=0.38", 1, "m=0.37", 0, "m=0.38e", 1, "m=0.37e", 0, "m=0.37t", 1, "m=0.38t", 0);
        of("the nearer one; .. t: the one that is not above");
        int below = row(0, 0, 0, 0, 0, 1, 1, 1, 1);
        holds(below, "m=0", 1, "m=1", 0, "m=0e", 1, "m=1e", 0, "m=0t", 1, "m=0.4", 1, "m=0.44", 1, "m=0.45", 0);
        int above = row(0, 0, 0, 0, 1, 1, 1, 1, 1);
        holds(above, "m=1", 1, "m=0", 0, "m=1e", 1, "m=0e", 0, "m=0t", 1, "m=1t", 0, "m=0.56", 1, "m=0.55", 0);
        holds(above, "m=0.5t", 1, "m=0.6t", 0, "m=0.55t", 1, "m=0.56t", 0);
        holds(row(1, 1, 1), "m=1t", 1, "m=0t", 0, "m=1.00t", 1, "m=0.99t", 0, "m=0.99", 0, "m=1.01", 0, "m=1.0e", 1);
    }

    private static void meanAtEnds() {
        of("MEAN: the sum by n .. is V");
        int sixes = 9;
        holds(sixes, "m=6", 1, "m=6.0e", 1, "m=6.00t", 1, "m=06", 1, "m=7", 0, "m=5", 0, "m=5.99", 0, "m=99.99", 0);
        int noughts = 9000000;
        holds(noughts, "m=0", 1, "m=0.00", 1, "m=00.0t", 1, "m=0e", 1, "m=1", 0, "m=0.01", 0, "m=99", 0, "m=10", 0);
        holds(1, "m=6", 1, "m=6.00", 1, "m=60", 0, "m=0.6", 0);
        holds(1000000, "m=0", 1, "m=1", 0);
        int almost = row(5, 6, 6, 6, 6, 6, 6, 6, 6);
        holds(almost, "m=6", 1, "m=5.9", 1, "m=5.89", 1, "m=5t", 1, "m=5.8t", 1, "m=5.88t", 1, "m=6e", 1, "m=5.88", 0);
    }

    private static void spreadOfOneMark() {
        of("(0 of one MARK)");
        for (int mark = 0; mark <= 6; mark++) {
            holds(PLACES[mark], "s=0", 1, "s=0.00", 1, "s=0e", 1, "s=0t", 1, "s=1", 0, "s=0.01", 0, "s=1t", 0, "s=1e", 0);
            holds(PLACES[mark], "v=0", 1, "v=0.00", 1, "v=0e", 1, "v=0t", 1, "v=1", 0, "v=0.01", 0, "v=99.99", 0);
        }
    }

    private static void spreadAtHalves() {
        of("e and u are alike there, but where it is half just so");
        int half = row(0, 0, 0, 1);
        holds(half, "s=1", 1, "s=0", 0, "s=0e", 1, "s=1e", 0, "s=0t", 1, "s=1t", 0, "s=0.5", 1, "s=0.50e", 1);
        int oneAndHalf = row(0, 0, 0, 3);
        holds(oneAndHalf, "s=2", 1, "s=1", 0, "s=2e", 1, "s=1e", 0, "s=1t", 1, "s=2t", 0, "s=1.50", 1);
        int twoAndHalf = row(0, 0, 0, 5);
        holds(twoAndHalf, "s=3", 1, "s=2", 0, "s=2e", 1, "s=3e", 0, "s=2t", 1, "s=3t", 0, "s=2.5t", 1);
        holds(row(0, 1), "v=1", 1, "v=0", 0, "v=0e", 1, "v=1e", 0, "v=0t", 1, "v=1t", 0, "v=0.5", 1);
        holds(row(0, 3), "v=2", 1, "v=1", 0, "v=2e", 1, "v=1e", 0, "v=1t", 1, "v=2t", 0);
        holds(row(1, 6), "v=3", 1, "v=2", 0, "v=2e", 1, "v=3e", 0, "v=2t", 1, "v=3t", 0);
        // 1, 1, 3: the root of 4 / 3 is 1.1547, that of 8 / 9 is 0.9428
        int noHalf = row(1, 1, 3);
        holds(noHalf, "s=1.15", 1, "s=1.15e", 1, "s=1.15t", 1, "s=1.2", 1, "s=1.2e", 1, "s=1.1t", 1, "s=1", 1, "s=1e", 1);
        holds(noHalf, "v=0.94", 1, "v=0.94e", 1, "v=0.94t", 1, "v=0.9", 1, "v=1", 1, "v=1e", 1, "v=0t", 1, "v=1t", 0);
    }

    private static void spreadAtEnds() {
        of("by (n times (n less 1)), by v= by (n times n)");
        holds(row(0, 6), "s=4", 1, "s=4.2", 1, "s=4.24", 1, "s=4.25", 0, "s=4.24t", 1, "s=4.2t", 1, "s=4t", 1, "s=5", 0);
        holds(row(0, 6), "v=3", 1, "v=3.0", 1, "v=3.00t", 1, "v=2.99t", 0, "v=2t", 0, "v=3t", 1, "v=3.01", 0, "v=2", 0);
        holds(9, "s=0", 1, "v=0", 1, "s=0.00t", 1, "v=0.00e", 1, "s=0.01", 0, "v=0.01", 0, "s=1", 0);
        holds(row(3, 3), "s=0", 1, "v=0", 1, "s=0.1", 0);
        // four 0s and five 6s: 9 * 180 - 900 = 720, by 72 is 10, by 81 is 8.889
        int wide = row(0, 0, 0, 0, 6, 6, 6, 6, 6);
        holds(wide, "s=3.16", 1, "s=3.17", 0, "s=3.16t", 1, "v=2.98", 1, "v=2.98t", 1, "v=3", 1, "v=2t", 1, "s=99.99", 0);
    }

    /** Every row of up to 9 marks has a spread; the root is found here by trying squares. */
    private static void spreadIsExact() {
        of("SPREAD: the square root of (n times the sum of squares, less the square of the sum)");
        int[][] rows = {{0, 1, 1}, {0, 0, 1}, {2, 5, 6}, {0, 1, 2, 3, 4, 5, 6}, {1, 1, 1, 1, 1, 1, 1, 2}, {4, 5},
            {0, 0, 0, 0, 0, 0, 0, 0, 1}, {0, 0, 0, 0, 0, 0, 0, 0, 6}, {5, 5, 6, 6, 6}};
        for (int[] marks : rows) {
            int n = marks.length;
            long sum = 0;
            long squares = 0;
            for (int mark : marks) {
                sum += mark;
                squares += mark * mark;
            }
            long above = n * squares - sum * sum;
            exactly(row(marks), "s", above, n * (n - 1));
            exactly(row(marks), "v", above, n * n);
        }
    }

    private static void exactly(int number, String letter, long above, long below) {
        int cut = 0;
        while ((cut + 1L) * (cut + 1) * below <= 10000 * above) {
            cut++;
        }
        boolean halfOrMore = (2L * cut + 1) * (2L * cut + 1) * below <= 40000 * above;
        int near = halfOrMore ? cut + 1 : cut;
        for (int v = Math.max(0, cut - 2); v <= cut + 2; v++) {
            String told = letter + "=" + v / 100 + "." + v / 10 % 10 + v % 10;
            holds(number, told + "t", v == cut ? 1 : 0, told, v == near ? 1 : 0);
        }
    }

    private static void middles() {
        of("MIDDLE: the middle MARK, of an even n half of the sum of the two middle ones, rounded likewise");
        holds(1, "d=6", 1, "d=6.0", 1, "d=6.00t", 1, "d=5", 0, "d=0", 0);
        holds(1000000, "d=0", 1, "d=0e", 1, "d=1", 0);
        holds(row(0, 1), "d=1", 1, "d=0", 0, "d=0e", 1, "d=1e", 0, "d=0t", 1, "d=0.5", 1, "d=0.50t", 1, "d=0.4", 0);
        holds(row(1, 2), "d=2", 1, "d=1", 0, "d=2e", 1, "d=1e", 0, "d=1t", 1, "d=1.5e", 1);
        holds(row(0, 6), "d=3", 1, "d=3.0", 1, "d=3t", 1, "d=3.5", 0);
        holds(row(5, 6), "d=6", 1, "d=6e", 1, "d=5t", 1, "d=5", 0, "d=5.5", 1);
        holds(row(0, 0, 6), "d=0", 1, "d=6", 0, "d=3", 0);
        holds(row(0, 6, 6), "d=6", 1, "d=0", 0);
        holds(row(0, 0, 0, 0, 1, 2, 2, 2, 2), "d=1", 1, "d=2", 0, "d=0", 0);
        holds(row(0, 0, 0, 0, 3, 4, 4, 4), "d=1.5", 1, "d=2", 1, "d=1t", 1);
        holds(row(0, 0, 0, 2, 3, 6, 6, 6), "d=2.5", 1, "d=3", 1, "d=2e", 1, "d=2t", 1);
    }

    private static void shareClaims() {
        of("hK: 100 times how many there are of K or more by n, rounded to a whole");
        int eighth = row(0, 0, 0, 0, 0, 0, 0, 3);
        holds(eighth, "h3=13%", 1, "h3=12%", 0, "h3=12%e", 1, "h3=13%e", 0, "h3=12%t", 1, "h3=13%t", 0, "h4=0%", 1);
        int threeEighths = row(0, 0, 0, 0, 0, 3, 4, 6);
        holds(threeEighths, "h3=38%", 1, "h3=37%", 0, "h3=38%e", 1, "h3=37%e", 0, "h3=37%t", 1, "h3=38%t", 0);
        holds(row(0, 0, 1), "h1=33%", 1, "h1=34%", 0, "h1=33%t", 1, "h1=33%e", 1);
        holds(row(0, 1, 1), "h1=67%", 1, "h1=66%", 0, "h1=66%t", 1, "h1=67%t", 0, "h1=67%e", 1);
        holds(1, "h6=100%", 1, "h0=100%t", 1, "h6=99%", 0, "h6=101%", 0, "h6=0%", 0, "h6=999%", 0, "h6=10%", 0);
        holds(1000000, "h0=100%", 1, "h1=0%", 1, "h6=0%t", 1, "h1=1%", 0, "h0=0%", 0);
        holds(row(2, 3, 4), "h2=100%", 1, "h3=67%", 1, "h4=33%", 1, "h5=0%", 1, "h0=100%e", 1, "h6=000%", 1);
    }

    private static void countClaims() {
        of("cK=N that there are N of MARK K");
        holds(9, "c6=9", 1, "c6=09", 1, "c6=8", 0, "c6=10", 0, "c6=99", 0, "c0=0", 1, "c0=00", 1, "c5=0", 1, "c5=9", 0);
        holds(9000000, "c0=9", 1, "c0=0", 0, "c1=0", 1, "c6=0", 1);
        holds(1000000, "c0=1", 1, "c0=2", 0, "c0=0", 0, "c0=11", 0);
    }

    private static void endClaims() {
        of("l=K the least, g=K the greatest MARK");
        holds(1, "l=6", 1, "g=6", 1, "l=0", 0, "g=0", 0, "l=5", 0, "g=5", 0);
        holds(1000000, "l=0", 1, "g=0", 1, "l=1", 0, "g=6", 0);
        holds(row(0, 0, 0, 0, 0, 0, 0, 0, 6), "l=0", 1, "g=6", 1, "l=6", 0, "g=0", 0);
        holds(row(1, 5), "l=1", 1, "g=5", 1, "l=0", 0, "g=6", 0, "l=2", 0, "g=4", 0);
    }

    private static void commonestClaims() {
        of("o=K the one that is most often there (of like ones the least)");
        holds(1, "o=6", 1, "o=0", 0);
        holds(row(0, 6), "o=0", 1, "o=6", 0);
        holds(row(5, 6), "o=5", 1, "o=6", 0);
        holds(row(0, 6, 6), "o=6", 1, "o=0", 0);
        holds(row(0, 1, 1, 5, 5), "o=1", 1, "o=5", 0, "o=0", 0);
        holds(1111111, "o=0", 1, "o=1", 0, "o=6", 0);
        holds(row(1, 2, 2, 3, 3, 3, 4, 4, 4), "o=3", 1, "o=4", 0, "o=2", 0);
    }

    private static void whichHold() {
        of("WHICH CLAIMS HOLD, as bits.");
        due("of no claims", new ToldFigures().put(5), 0);
        due("all ten", typed(5, "l=0;l=0;l=0;l=0;l=0;l=0;l=0;l=0;l=0;l=0").put(5000000), 1023);
        due("none of ten", typed(5, "l=0;l=0;l=0;l=0;l=0;l=0;l=0;l=0;l=0;l=0").put(5), 0);
        due("the first", typed(5, "l=0;l=1;l=1;l=1;l=1;l=1;l=1;l=1;l=1;l=1").put(5000000), 1);
        due("the tenth", typed(5, "l=1;l=1;l=1;l=1;l=1;l=1;l=1;l=1;l=1;l=0").put(5000000), 512);
        ToldFigures x = typed(5, "l=0;g=0");
        due("n of then", x.put(5000000), 3);
        x.set(0, 1);
        due("n of now", x.put(1000000), 3);
        due("n of then is no row", x.put(5000000), BAD);
    }

    // ---- 2: what can be

    private static void rowsThereAre() {
        of("How many ROWS there are in all, whatever is claimed.");
        for (int n = 1; n <= 9; n++) {
            for (int top = 0; top <= 6; top++) {
                long rows = 1;
                for (int i = 1; i <= top; i++) {
                    rows = rows * (n + i) / i;
                }
                ToldFigures x = typed(n, "c0=99");
                x.set(1, top);
                due("rows() of " + n + " up to " + top, x.rows(), rows);
                due("can() of " + n + " up to " + top, x.can(), 0);
                x.type('!');
                due("rows() with a FAULT", x.rows(), rows);
                x.wipe();
                due("can() of no claims", x.can(), rows);
            }
        }
    }

    private static void noneAndAllCanBe() {
        of("CAN BE are ROWS for which all BELIEVED CLAIMS HOLD.");
        due("all", typed(9, "h0=100%").can(), 5005);
        due("one", typed(9, "c6=9").can(), 1);
        due("none", typed(9, "c6=10").can(), 0);
        ToldFigures x = typed(1, "l=6");
        due("one at TOP", x.can(), 1);
        x.set(1, 5);
        due("none above TOP", x.can(), 0);
        x.set(1, 6);
        x.believe(0);
        due("all without claims", x.can(), 7);
        x.set(1, 0);
        due("the only one", x.can(), 1);
    }

    private static void rankedEnds() {
        of("the i-th ROW that CAN BE (from 0) ..; NONE: not so many.");
        ToldFigures x = typed(9, "");
        due("the first", x.ranked(0), 9000000);
        due("the second", x.ranked(1), 8100000);
        due("the last", x.ranked(5004), 9);
        due("behind the last", x.ranked(5005), NONE);
        due("far behind", x.ranked(GREATEST), NONE);
        due("below 0", x.ranked(-1), BAD);
        typedOn(x, "c6=9");
        due("the only one", x.ranked(0), 9);
        due("behind it", x.ranked(1), NONE);
        typedOn(x, "9");
        due("of none", x.ranked(0), NONE);
        due("below 0 of none", x.ranked(-1), BAD);
        x.wipe();
        x.set(0, 1);
        x.set(1, 0);
        due("the only row", x.ranked(0), 1000000);
        due("behind the only row", x.ranked(1), NONE);
    }

    private static void waysEnds() {
        of("WAYS: in how many orders of n MARKS one behind the other they all are");
        for (int n = 1; n <= 9; n++) {
            ToldFigures x = typed(n, "");
            for (int top = 0; top <= 6; top++) {
                x.set(1, top);
                due("ways() of " + n + " up to " + top, x.ways(), (long) Math.pow(top + 1, n));
            }
        }
        due("none", typed(5, "c0=6").ways(), 0);
        due("one order", typed(9, "c6=9").ways(), 1);
        due("nine of one", typed(9, "c6=8;c0=1").ways(), 9);
        due("most of one row", typed(9, "c0=1;c1=1;c2=1;c3=1;c4=1;c5=2;c6=2").ways(), 90720);
    }

    private static void boundsOfMarks() {
        of("BOUNDS of a MARK: the least (end = 0), the greatest (1); of the sum (mark = NONE)");
        ToldFigures x = typed(9, "");
        for (int mark = 0; mark <= 6; mark++) {
            due("least of " + mark, x.bound(mark, 0), 0);
            due("greatest of " + mark, x.bound(mark, 1), 9);
        }
        due("least sum", x.bound(NONE, 0), 0);
        due("greatest sum", x.bound(NONE, 1), 54);
        x.set(1, 4);
        due("greatest of TOP", x.bound(4, 1), 9);
        due("greatest above TOP", x.bound(5, 1), 0);
        due("greatest sum up to TOP", x.bound(NONE, 1), 36);
        x.set(1, 0);
        due("least of the only mark", x.bound(0, 0), 9);
        due("greatest sum of 0s", x.bound(NONE, 1), 0);
        x.set(1, 6);
        typedOn(x, "c6=9");
        due("least of all 6s", x.bound(6, 0), 9);
        due("least sum of all 6s", x.bound(NONE, 0), 54);
        ToldFigures y = typed(4, "m=2.5t;c0=1");
        due("least of 0", y.bound(0, 0), 1);
        due("greatest of 0", y.bound(0, 1), 1);
        due("least sum of 2.5", y.bound(NONE, 0), 10);
        due("greatest of 6: 0, 1, 3, 6", y.bound(6, 1), 1);
        due("greatest of 5: 0, 0 is not", y.bound(5, 1), 1);
        due("greatest of 3: 0, 3, 3, 4", y.bound(3, 1), 2);
    }

    private static void boundsOfNone() {
        of("NONE: no ROW CAN BE.");
        ToldFigures x = typed(5, "c0=6");
        for (int mark = NONE; mark <= 6; mark++) {
            due("least of " + mark, x.bound(mark, 0), NONE);
            due("greatest of " + mark, x.bound(mark, 1), NONE);
        }
        due("of mark 7", x.bound(7, 0), BAD);
        due("of mark -2", x.bound(-2, 0), BAD);
        due("of end 2", x.bound(0, 2), BAD);
        due("of end -1", x.bound(0, -1), BAD);
        x.believe(0);
        due("of one that CAN BE", x.bound(0, 1), 5);
    }

    private static void aloneEnds() {
        of("ALONE: CLAIMS that HOLD for no ROW, each by itself.");
        due("of no claims", typed(5, "").alone(), 0);
        due("none of ten", typed(5, TEN).alone(), 0);
        due("all of ten", typed(5, "c0=6;c0=6;c0=6;c0=6;c0=6;c0=6;c0=6;c0=6;c0=6;c0=6").alone(), 1023);
        due("the tenth", typed(5, NINE + ";c0=6").alone(), 512);
        due("the first", typed(5, "c0=6;" + NINE).alone(), 1);
        due("the last that HOLDS", typed(5, "c0=5;c6=5;m=6;m=0;h6=100%;h0=100%;l=6;g=0").alone(), 0);
        due("the first that does not", typed(5, "c0=6;c6=6;m=7;m=6.01;h6=101%;h0=99%;d=6.5;s=4").alone(), 255);
        due("those that only quarrel", typed(5, "c0=5;c1=5").alone(), 0);
        ToldFigures x = typed(5, "l=6;g=6;o=6;c6=1;h6=20%");
        x.set(1, 5);
        due("above TOP", x.alone(), 31);
    }

    private static void fewestEnds() {
        of("FEWEST: .. to be doubted so that some ROW CAN BE by the others");
        due("of no claims", typed(5, "").fewest(), 0);
        due("none of ten", typed(5, TEN).fewest(), 0);
        due("all of ten", typed(5, "c0=6;c0=6;c0=6;c0=6;c0=6;c0=6;c0=6;c0=6;c0=6;c0=6").fewest(), 1023);
        due("the tenth", typed(5, NINE + ";l=1").fewest(), 512);
        due("the first", typed(5, "l=1;" + NINE).fewest(), 1);
        ToldFigures x = typed(5, "l=1;" + NINE);
        x.believe(1022);
        due("it is not BELIEVED", x.fewest(), 0);
        x.believe(3);
        due("one of two", x.fewest(), 1);
        x.believe(0);
        due("none is BELIEVED", x.fewest(), 0);
    }

    private static void fewestOfLikeOnes() {
        of("FEWEST: .. the fewest, of like ones the least as bits");
        due("one of the first or of the second", typed(5, "l=1;l=0").fewest(), 1);
        due("the one, not the two behind", typed(5, "l=1;l=0;g=1;l=1").fewest(), 2);
        due("two of 0s, two of 1s", typed(5, "l=0;l=1;l=0;l=1").fewest(), 5);
        due("the fewer, though they are greater as bits", typed(5, "l=0;l=0;l=1").fewest(), 4);
        due("three sorts", typed(5, "l=2;l=1;l=0;l=2;l=1;l=0").fewest(), 27);
    }

    private static void quarrelEnds() {
        of("QUARREL: the least set of BELIEVED CLAIMS that HOLD for no ROW together .. 0: there is none.");
        due("of no claims", typed(5, "").quarrel(), 0);
        due("none of ten", typed(5, TEN).quarrel(), 0);
        due("one alone", typed(5, "c0=6").quarrel(), 1);
        due("the tenth alone", typed(5, NINE + ";c0=6").quarrel(), 512);
        due("the first and the tenth", typed(5, "l=1;l=1;l=1;l=1;l=1;l=1;l=1;l=1;l=1;l=0").quarrel(), 513);
        due("all seven", typed(6, "c0=1;c1=1;c2=1;c3=1;c4=1;c5=1;c6=1").quarrel(), 127);
        due("none of seven", typed(7, "c0=1;c1=1;c2=1;c3=1;c4=1;c5=1;c6=1").quarrel(), 0);
        ToldFigures x = typed(5, "c0=6;l=1;l=0");
        x.believe(6);
        due("the first is not BELIEVED", x.quarrel(), 6);
        x.believe(4);
        due("one is BELIEVED", x.quarrel(), 0);
        x.believe(0);
        due("none is BELIEVED", x.quarrel(), 0);
    }

    private static void quarrelOfLikeOnes() {
        of("QUARREL: .. the fewest, of like ones the least as bits");
        due("any six of seven", typed(5, "c0=1;c1=1;c2=1;c3=1;c4=1;c5=1;c6=1").quarrel(), 63);
        due("the second alone, not the first two", typed(5, "l=1;c0=6;l=0").quarrel(), 2);
        due("two that are greater, not three that are less", typed(5, "c0=2;c1=2;c2=2;l=0;l=1").quarrel(), 17);
        due("of two pairs", typed(5, "l=0;g=0;l=1;g=1").quarrel(), 5);
        due("of two that are alone", typed(5, "l=0;c0=6;c0=6").quarrel(), 2);
    }

    private static void askEnds() {
        of("NONE: less than two CAN BE.");
        due("none", typed(5, "c0=6").ask(), NONE);
        due("one", typed(5, "c0=5").ask(), NONE);
        due("two", typed(5, "c0=4;c1=0;c2=0;c3=0;c4=0").ask(), 5);
        ToldFigures x = typed(9, "");
        x.set(1, 0);
        due("the only row", x.ask(), NONE);
        x.set(1, 1);
        due("ten rows", x.ask(), 0);
        x.set(0, 1);
        due("two rows", x.ask(), 0);
    }

    private static void askOfLikeOnes() {
        of("ASK: .. the fewest ROWS that CAN BE would be left at most; of like ones the least");
        due("all seven alike", typed(1, "").ask(), 0);
        due("0 tells nothing", typed(1, "c0=0").ask(), 1);
        due("only 5 and 6", typed(1, "l=5;c5=1;g=5").ask(), NONE);
        due("5, 5 or 5, 6 or 6, 6", typed(2, "c0=0;c1=0;c2=0;c3=0;c4=0").ask(), 5);
        // eight 6s and one of 0 to 5: 6 leaves all six rows, each other mark five
        due("6 tells nothing", typed(9, "c6=8").ask(), 0);
        // sum 2 of three: 0, 0, 2 or 0, 1, 1: each of 0, 1, 2 leaves one
        due("sum 2 of three", typed(3, "m=0.67").ask(), 0);
        // sum 3 of three: 0, 0, 3; 0, 1, 2; 1, 1, 1: of 0s two, one, none; the others leave two or more
        due("sum 3 of three", typed(3, "m=1.00").ask(), 0);
        // 1, 1, 3 or 1, 2, 2: 0 leaves both
        due("0 leaves both", typed(3, "m=1.67;l=1").ask(), 1);
        // 0, 0, 0, 6; 0, 0, 1, 5; 0, 0, 2, 4; 0, 0, 3, 3: of 0s at most three, of others too, of 3: three
        due("like ones", typed(4, "m=1.50;c0=2").ask(), 1);
    }

    // ---- 3: shares

    private static void sharesOfNoItems() {
        of("these are all there is of N");
        for (int rule = 0; rule <= 2; rule++) {
            ToldFigures x = laid(2);
            due("shares of none", x.shares(0, rule, 0), 0);
            due("least of none", x.shares(0, rule, 1), NONE);
            due("none of 1", x.share(0, rule, 1), 0);
            due("none of 300", x.share(0, rule, 300), 0);
        }
    }

    private static void sharesOfOneItem() {
        of("whole numbers are told, each a share of all .. that are N together");
        for (int rule = 0; rule <= 2; rule++) {
            for (int item = 0; item <= 100; item++) {
                ToldFigures x = laid(0, item);
                due(item + " by " + rule, x.shares(0, rule, 0), item == 100 ? 300 : 0);
                due("least of " + item + " by " + rule, x.shares(0, rule, 1), item == 100 ? 1 : NONE);
            }
        }
        due("0, 100 of 1", laid(0, 0, 100).share(0, 0, 1), 1);
        due("100, 100 of 300", laid(0, 100, 100).share(0, 0, 300), 0);
        due("100, 100 of 1", laid(0, 100, 100).share(0, 0, 1), 0);
        due("0, 0, 100 of 300", laid(0, 0, 0, 100).share(0, 0, 300), 1);
    }

    private static void sharesAtTheEndsOfN() {
        of("How many N of 1 to 300 CAN BE; the least.");
        // 99 and 0 by t: one of N must be less than a hundredth of it
        ToldFigures x = laid(0, 99, 0);
        due("99, 0 by t of 100", x.share(0, 2, 100), 0);
        due("99, 0 by t of 101", x.share(0, 2, 101), 1);
        due("99, 0 by t of 300", x.share(0, 2, 300), 1);
        due("least of 99, 0 by t", x.shares(0, 2, 1), 101);
        due("99, 0 by t", x.shares(0, 2, 0), 200);
        due("the least of all, by u", laid(0, 50, 49, 0).shares(0, 0, 1), 201);
        due("1 itself", laid(0, 100).shares(0, 0, 1), 1);
        due("2", laid(0, 50, 50).shares(0, 2, 1), 2);
        due("99 of 300", laid(0, 33, 67).share(0, 0, 300), 1);
        due("N 1 of 50, 50", laid(0, 50, 50).share(0, 0, 1), 0);
        due("N 0", laid(0, 100).share(0, 0, 0), BAD);
        due("N 301", laid(0, 100).share(0, 0, 301), BAD);
        due("N 300", laid(0, 100).share(0, 0, 300), 1);
    }

    private static void sharesAtHalves() {
        of("rounded to a whole by a RULE (0 u, 1 e, 2 t)");
        int[][] pairs = {{13, 88}, {12, 88}, {12, 87}, {38, 63}, {38, 62}, {37, 62}, {13, 87}, {37, 63}};
        int[] byRule = {0, 1, 2, 0, 1, 2, NONE, NONE};
        for (int i = 0; i < pairs.length; i++) {
            for (int rule = 0; rule <= 2; rule++) {
                due(pairs[i][0] + ", " + pairs[i][1] + " of 8 by " + rule,
                        laid(0, pairs[i]).share(0, rule, 8), byRule[i] == rule ? 1 : 0);
            }
        }
        due("1 of 200 by u is 1", laid(0, 1, 100).share(0, 0, 200), 1);
        due("1 of 200 by e is 0", laid(0, 0, 100).share(0, 1, 200), 1);
        due("1 and 199 of 200 by e: 0 and 100", laid(0, 0, 99).share(0, 1, 200), 0);
        due("3 of 200 by e is 2", laid(0, 2, 98).share(0, 1, 200), 1);
        due("1 of 201 is 0", laid(0, 0, 100).share(0, 0, 201), 1);
        due("1 and 198 of 199: 1 and 99", laid(0, 1, 99).share(0, 0, 199), 1);
    }

    private static void sharesOfSixty() {
        of("items of a SHEET [60 of them] are hundredths");
        ToldFigures x = laid(0, alike(60, 2));
        due("sixty of 60 by u: 1.67", x.share(0, 0, 60), 1);
        due("sixty of 60 by e", x.share(0, 1, 60), 1);
        due("sixty of 60 by t", x.share(0, 2, 60), 0);
        due("sixty of 59", x.share(0, 0, 59), 0);
        ToldFigures y = laid(0, alike(60, 1));
        due("sixty 1s of 60 by t", y.share(0, 2, 60), 1);
        due("sixty 1s of 61 by t: one is 2, 3.28", y.share(0, 2, 61), 0);
        due("sixty 1s of 100 by t", y.share(0, 2, 100), 0);
        int[] hundred = alike(60, 1);
        java.util.Arrays.fill(hundred, 0, 40, 2);
        due("forty 2s and twenty 1s of 100", laid(0, hundred).share(0, 2, 100), 1);
        due("sixty 100s", laid(0, alike(60, 100)).shares(0, 0, 0), 0);
        due("sixty 0s", laid(0, alike(60, 0)).shares(0, 1, 0), 0);
    }

    private static void hundredths() {
        of("hundredths (0 to 100) .. NOT: items that are no hundredths");
        for (int form = 0; form <= 2; form++) {
            due("0, 100", laid(form, 0, 100).shares(0, 0, 0), 300);
            due("-1, 100", laid(form, -1, 100).shares(0, 0, 0), NOT);
            due("0, 101", laid(form, 0, 101).shares(0, 0, 0), NOT);
            due("101 in the middle", laid(form, 50, 101, 50).share(0, 0, 2), NOT);
        }
        due("356 as a byte is 100", laid(0, 356).shares(0, 0, 0), 300);
        due("the least int", laid(2, LEAST).share(0, 0, 1), NOT);
        due("the greatest int", laid(2, GREATEST).share(0, 0, 1), NOT);
        ToldFigures x = laid(2, 100, 101);
        x.sheet(0, 2, 1);
        x.lay(0, 2, 0, 100);
        due("what a longer sheet had", x.shares(0, 0, 0), 300);
    }

    // ---- figures

    private static void lastFigures() {
        of("LAST FIGURES: how many items have a figure (0 to 9).");
        ToldFigures x = laid(2, 0, 1, 12, 123, -4, -15, 1006, GREATEST, LEAST, 9, 19, -10);
        int[] ends = {2, 1, 1, 1, 1, 1, 1, 1, 1, 2};
        for (int figure = 0; figure <= 9; figure++) {
            due("last(0, " + figure + ")", x.last(0, figure), ends[figure]);
            due("last of none", laid(2).last(0, figure), 0);
        }
        due("last(0, -1)", x.last(0, -1), BAD);
        due("last(0, 10)", x.last(0, 10), BAD);
        due("sixty 0s", laid(0, alike(60, 0)).last(0, 0), 60);
        due("the least byte", laid(0, -128).last(0, 8), 1);
        due("the least short", laid(1, -32768).last(0, 8), 1);
    }

    private static void lastChanceEnds() {
        of("CHANCE .. in millionths, cut. (12 items at most: FULL.)");
        due("of 12", laid(2, 0, 0, 0, 0, 0, 0, 0, 1, 2, 3, 4, 5).lastChance(0), 501);
        due("of 13", laid(2, 0, 0, 0, 0, 0, 0, 0, 1, 2, 3, 4, 5, 6).lastChance(0), FULL);
        due("of 60", laid(2, alike(60, 7)).lastChance(0), FULL);
        due("of 12 bytes", laid(0, alike(12, 7)).lastChance(0), 0);
        due("7 alike: one of a million", laid(2, alike(7, 3)).lastChance(0), 1);
        due("8 alike: less", laid(2, alike(8, 3)).lastChance(0), 0);
        for (int figure = 0; figure <= 9; figure++) {
            due("three of three: " + figure, laid(2, figure, 10 + figure, -figure).lastChance(0), 10000);
        }
        due("ten unlike", laid(2, 0, 1, 2, 3, 4, 5, 6, 7, 8, 9).lastChance(0), 1000000);
        due("two of 12: some figure always comes twice", laid(2, 0, 0, 1, 1, 2, 2, 3, 4, 5, 6, 7, 8).lastChance(0), 1000000);
        of("(1000000 without items.)");
        for (int form = 0; form <= 2; form++) {
            due("of none", laid(form).lastChance(0), 1000000);
            due("of one", laid(form, 5).lastChance(0), 1000000);
        }
        due("of two", laid(2, 5, 15).lastChance(0), 100000);
    }

    private static void firstFigures() {
        of("FIRST FIGURES (of items but 0; 1 to 9)");
        ToldFigures x = laid(2, 0, 1, 29, 300, -4, -50, 60000, 79999, 8, 999999999, 0, LEAST, GREATEST, 1000000000);
        int[] starts = {0, 2, 3, 1, 1, 1, 1, 1, 1, 1};
        for (int figure = 1; figure <= 9; figure++) {
            due("first(0, " + figure + ")", x.first(0, figure), starts[figure]);
            due("first of none", laid(2).first(0, figure), 0);
            due("first of 0s", laid(2, 0, 0).first(0, figure), 0);
        }
        due("first(0, 0)", x.first(0, 0), BAD);
        due("first(0, 10)", x.first(0, 10), BAD);
        due("sixty 9s", laid(0, alike(60, 9)).first(0, 9), 60);
        due("9 of 10, 9, 99, 100", laid(2, 10, 9, 99, 100).first(0, 9), 2);
        due("1 of 10, 9, 99, 100", laid(2, 10, 9, 99, 100).first(0, 1), 2);
        due("9 of them below 0", laid(2, -10, -9, -99, -100).first(0, 9), 2);
        due("1 of them below 0", laid(2, -10, -9, -99, -100).first(0, 1), 2);
        due("the least byte", laid(0, -128).first(0, 1), 1);
        due("the least short", laid(1, -32768).first(0, 3), 1);
    }

    private static void firstChanceEnds() {
        of("(6 items at most: FULL) .. more than 6 items that are not 0");
        int[] six = alike(60, 0);
        for (int i = 0; i < 6; i++) {
            six[10 * i + 9] = 10 + i;
        }
        due("six of sixty", laid(2, six).firstChance(0, 1), 743);
        due("none of six", laid(2, six).firstChance(0, 2), 1000000);
        six[0] = -1;
        due("seven of sixty", laid(2, six).firstChance(0, 1), FULL);
        due("seven alone", laid(2, alike(7, 1)).firstChance(0, 1), FULL);
        due("six alone", laid(2, alike(6, 1)).firstChance(0, 1), 743);
        due("no items", laid(2).firstChance(0, 9), 1000000);
        due("0s alone", laid(2, alike(60, 0)).firstChance(0, 9), 1000000);
        due("five 9s: 2059 of 10 000 000 000", laid(2, alike(5, 9)).firstChance(0, 9), 0);
        due("four 9s: 4.477 millionths, cut", laid(2, alike(4, 9)).firstChance(0, 9), 4);
        due("two of six, by 301", laid(2, 1, 1, 2, 3, 4, 5).firstChance(0, 1), 581983);
    }

    private static void firstChanceOfEachFigure() {
        of("301, 176, 125, 97, 79, 67, 58, 51, 46 of 1000");
        int[] shares = {301, 176, 125, 97, 79, 67, 58, 51, 46};
        for (int figure = 1; figure <= 9; figure++) {
            int share = shares[figure - 1];
            due("one of one: " + figure, laid(2, figure).firstChance(0, figure), 1000L * share);
            due("two of two: " + figure, laid(2, figure, 10 * figure).firstChance(0, figure), share * share);
            due("none of one: " + figure, laid(2, figure % 9 + 1).firstChance(0, figure), 1000000);
            due("one of two: " + figure, laid(2, figure, figure % 9 + 1).firstChance(0, figure),
                    1000000 - (1000 - share) * (1000 - share));
        }
    }

    // ---- copies, twice

    private static void copiesAre(ToldFigures x, long length, long inT, long inS, long step) {
        long[] due = {length, inT, inS, step};
        for (int what = 0; what <= 3; what++) {
            due("copies(0, 1, " + what + ")", x.copies(0, 1, what), due[what]);
        }
    }

    private static ToldFigures two(int[] s, int[] t) {
        return laidOn(laid(2, s), 1, 2, t);
    }

    private static void copiesOfOne() {
        of("the longest stretch of items of the second that are those of a stretch of the first");
        copiesAre(two(new int[] {5}, new int[] {5}), 1, 0, 0, 0);
        copiesAre(two(new int[] {5}, new int[] {3}), 1, 0, 0, -2);
        copiesAre(two(new int[] {1, 5}, new int[] {1, 2}), 1, 0, 0, 0);
        copiesAre(two(new int[] {1, 5, 6}, new int[] {1, 2}), 2, 0, 1, -4);
        copiesAre(two(new int[] {1, 2}, new int[] {9, 5, 6}), 2, 1, 0, 4);
        copiesAre(two(new int[] {1}, new int[] {9, 5, 6}), 1, 0, 0, 8);
        copiesAre(two(new int[] {9, 5, 6}, new int[] {1}), 1, 0, 0, -8);
        of("NOT, if one has no items.");
        due("the first", two(new int[0], new int[] {1}).copies(0, 1, 0), Long.MIN_VALUE + 3);
        due("the second", two(new int[] {1}, new int[0]).copies(0, 1, 0), Long.MIN_VALUE + 3);
        due("both", two(new int[0], new int[0]).copies(0, 1, 3), Long.MIN_VALUE + 3);
    }

    private static void copiesOfSixty() {
        of("stretches of up to 60 items");
        int[] squares = new int[60];
        int[] moved = new int[60];
        for (int i = 0; i < 60; i++) {
            squares[i] = i * i;
            moved[i] = i * i - 1000;
        }
        copiesAre(two(squares, moved), 60, 0, 0, -1000);
        moved[59] = 0;
        copiesAre(two(squares, moved), 59, 0, 0, -1000);
        moved[0] = 0;
        copiesAre(two(squares, moved), 58, 1, 1, -1000);
        copiesAre(two(new int[] {3481}, squares), 1, 0, 0, -3481);
        copiesAre(two(new int[] {7, 124}, squares), 2, 58, 0, 3357);
        copiesAre(two(squares, new int[] {7, 124}), 2, 0, 58, -3357);
        copiesAre(two(alike(60, 4), alike(60, 6)), 60, 0, 0, 2);
        due("a sheet of itself", laid(2, squares).copies(0, 0, 0), 60);
    }

    private static void copiesOfLikeLength() {
        of("of like long ones that which begins first in the second, then in the first");
        copiesAre(two(new int[] {0, 1, 9, 8}, new int[] {5, 4, 7, 8}), 2, 0, 2, -4);
        copiesAre(two(new int[] {0, 1, 5, 6}, new int[] {3, 4}), 2, 0, 0, 3);
        copiesAre(two(new int[] {3, 4}, new int[] {0, 1, 5, 6}), 2, 0, 0, -3);
        copiesAre(two(new int[] {0, 1, 5, 6}, new int[] {9, 3, 4, 2, 7, 8}), 2, 1, 0, 3);
        copiesAre(two(new int[] {0, 1, 9, 2, 3, 4}, new int[] {5, 6, 0, 7, 8, 9}), 3, 3, 3, 5);
    }

    private static void stepsOfAnyNumber() {
        of("each and the same STEP (any number)");
        copiesAre(two(new int[] {LEAST}, new int[] {GREATEST}), 1, 0, 0, 4294967295L);
        copiesAre(two(new int[] {GREATEST}, new int[] {LEAST}), 1, 0, 0, -4294967295L);
        copiesAre(two(new int[] {LEAST, LEAST}, new int[] {GREATEST, GREATEST}), 2, 0, 0, 4294967295L);
        // in ints that wrap, each step would be 1; in whole numbers the second is 1 less 2 to the 32nd
        copiesAre(two(new int[] {5, GREATEST}, new int[] {6, LEAST}), 1, 0, 0, 1);
        copiesAre(two(new int[] {GREATEST, LEAST}, new int[] {LEAST, LEAST + 1}), 1, 0, 0, -4294967295L);
        ToldFigures x = laidOn(laid(0, 1, 2), 1, 1, 1001, 1002);
        copiesAre(x, 2, 0, 0, 1000);
    }

    private static void twiceIs(ToldFigures x, long missAbove, long missBelow, long biasAbove, long biasBelow, long worst) {
        long[] due = {missAbove, missBelow, biasAbove, biasBelow, worst};
        for (int what = 0; what <= 4; what++) {
            due("twice(0, " + what + ")", x.twice(0, what), due[what]);
        }
    }

    private static void twiceOfOnePair() {
        of("NOT: no pairs, half a one, an item that is not -10000 to 10000.");
        twiceIs(laid(2, 10000, 10000), 0, 1, 0, 1, 0);
        twiceIs(laid(2, -10000, -10000), 0, 1, 0, 1, 0);
        twiceIs(laid(2, 10000, -10000), 200000000, 1, 20000, 1, 0);
        twiceIs(laid(2, -10000, 10000), 200000000, 1, -20000, 1, 0);
        twiceIs(laid(2, 1, 0), 1, 2, 1, 1, 0);
        for (int what = 0; what <= 4; what++) {
            due("no pairs", laid(2).twice(0, what), Long.MIN_VALUE + 3);
            due("half a pair", laid(2, 1).twice(0, what), Long.MIN_VALUE + 3);
            due("one and a half", laid(2, 1, 2, 3).twice(0, what), Long.MIN_VALUE + 3);
            due("10001", laid(2, 10001, 0).twice(0, what), Long.MIN_VALUE + 3);
            due("-10001", laid(2, 0, -10001).twice(0, what), Long.MIN_VALUE + 3);
            due("10001 at the end", laid(2, 0, 0, 0, 10001).twice(0, what), Long.MIN_VALUE + 3);
        }
    }

    private static void twiceOfThirtyPairs() {
        of("MISS: the sum of squares of the differences by twice as many as pairs");
        int[] far = new int[60];
        for (int i = 0; i < 60; i++) {
            far[i] = i % 2 == 0 ? -10000 : 10000;
        }
        twiceIs(laid(2, far), 200000000, 1, -20000, 1, 0);
        far[59] = 9999;
        // 29 * 400000000 + 19999 * 19999 = 11999960001, by 60: 3999986667 by 20; -599999 by 30
        twiceIs(laid(2, far), 3999986667L, 20, -599999, 30, 0);
        far[0] = 10000;
        // 28 * 400000000 + 19999 * 19999 by 60; -579999 by 30
        twiceIs(laid(2, far), 11599960001L, 60, -193333, 10, 1);
        due("59 items", laid(2, alike(59, 0)).twice(0, 0), Long.MIN_VALUE + 3);
        due("60 items", laid(2, alike(60, 0)).twice(0, 0), 0);
    }

    private static void worstOfLikeOnes() {
        of("WORST: the pair (from 0) that differs most, of like ones the first.");
        due("all alike", laid(2, 1, 1, 2, 2, 3, 3).twice(0, 4), 0);
        due("like ones of other signs", laid(2, 1, 1, 5, 2, 2, 5).twice(0, 4), 1);
        due("like ones of other signs, turned", laid(2, 1, 1, 2, 5, 5, 2).twice(0, 4), 1);
        due("the last", laid(2, 0, 1, 0, 1, 0, 2).twice(0, 4), 2);
        due("the last, below 0", laid(2, 0, 1, 0, 1, 2, 0).twice(0, 4), 2);
        int[] last = alike(60, 5);
        last[59] = 4;
        due("the thirtieth", laid(2, last).twice(0, 4), 29);
        due("the first", laid(2, 9, 0, 0, 8).twice(0, 4), 0);
    }

    private static void fractions() {
        of("a FRACTION in lowest terms");
        twiceIs(laid(2, 0, 0), 0, 1, 0, 1, 0);
        twiceIs(laid(2, 3, 5, 5, 3), 2, 1, 0, 1, 0);
        twiceIs(laid(2, 1, 3, 0, 0, 0, 0, 0, 0), 1, 2, -1, 2, 0);
        twiceIs(laid(2, 3, 1, 0, 0, 0, 0), 2, 3, 2, 3, 0);
        twiceIs(laid(2, 0, 6, 0, 0, 0, 0), 6, 1, -2, 1, 0);
        twiceIs(laid(0, 0, 1, 0, 0, 0, 0), 1, 6, -1, 3, 0);
    }

    // ---- sheets

    private static void sheetsThereAre() {
        of("SHEETS 0 .. 3 are LOST (at first) or a row of a FORM: 0 bytes, 1 shorts, 2 ints");
        ToldFigures x = new ToldFigures();
        for (int s = 0; s < 4; s++) {
            due("count(4) of " + s, x.count(4), s);
            due("sheet(" + s + ", 0, 1)", x.sheet(s, 0, 1), 1);
        }
        due("count(4) of all", x.count(4), 4);
        due("sheet(4, 0, 1)", x.sheet(4, 0, 1), BAD);
        due("sheet(-1, 0, 1)", x.sheet(-1, 0, 1), BAD);
        for (int form = 0; form <= 2; form++) {
            due("sheet(0, " + form + ", 1)", x.sheet(0, form, 1), 1);
            for (int as = 0; as <= 2; as++) {
                due("lay of " + form + " as " + as, x.lay(0, as, 0, 7), as == form ? 1 : -13);
                due("get of " + form + " as " + as, x.get(0, as, 0), as == form ? 7 : LEAST);
            }
        }
        due("sheet(0, 3, 1)", x.sheet(0, 3, 1), BAD);
        due("sheet(0, -1, 1)", x.sheet(0, -1, 1), BAD);
    }

    private static void itemsOfASheet() {
        of("of 0 to 60 items (0 at first)");
        for (int form = 0; form <= 2; form++) {
            for (int n : new int[] {0, 1, 59, 60}) {
                ToldFigures x = new ToldFigures();
                due("sheet of " + n, x.sheet(3, form, n), n);
                for (int i = 0; i < n; i++) {
                    due("item " + i + " of " + n, x.get(3, form, i), 0);
                }
                due("lay at the end of " + n, x.lay(3, form, n - 1, 5), n == 0 ? -12 : 1);
                due("lay behind the end of " + n, x.lay(3, form, n, 5), -12);
                due("get at the end of " + n, x.get(3, form, n - 1), n == 0 ? LEAST : 5);
                due("get behind the end of " + n, x.get(3, form, n), LEAST);
                due("lose of " + n, x.lose(3), n);
            }
            ToldFigures x = new ToldFigures();
            due("sheet of 61", x.sheet(3, form, 61), BAD);
            due("sheet of -1", x.sheet(3, form, -1), -15);
            due("none was made", x.count(4), 0);
        }
    }

    private static void aSheetMadeAnew() {
        of("A SHEET is a new row of a FORM with n items: n.");
        ToldFigures x = laid(2, alike(60, 9));
        due("anew", x.sheet(0, 2, 60), 60);
        for (int i = 0; i < 60; i++) {
            due("item " + i, x.get(0, 2, i), 0);
        }
        laidOn(x, 0, 2, alike(60, 9));
        x.sheet(0, 2, 3);
        due("shorter", x.lose(0), 3);
        x.sheet(0, 2, 60);
        due("longer again", x.get(0, 2, 59), 0);
        due("count(4)", x.count(4), 1);
        laidOn(x, 1, 2, 1, 2);
        x.sheet(0, 2, 2);
        due("another sheet stays", x.get(1, 2, 1), 2);
    }

    private static void losing() {
        of("It is LOST: how many items it had.");
        ToldFigures x = laid(1, 1, 2, 3);
        due("lose(0)", x.lose(0), 3);
        due("count(4)", x.count(4), 0);
        due("lose(0) again", x.lose(0), -11);
        due("get of it", x.get(0, 1, 0), LEAST);
        due("and count(8)", x.count(8), 1);
        x.sheet(0, 1, 3);
        due("made anew", x.get(0, 1, 0), 0);
        x.sheet(3, 0, 0);
        due("lose(3) of none", x.lose(3), 0);
        due("lose(3) again", x.lose(3), -11);
        due("lose(4)", x.lose(4), BAD);
        due("lose(-1)", x.lose(-1), BAD);
    }

    private static void lowestBits() {
        of("Item i .. becomes v (the lowest bits that it has)");
        int[][] bytes = {{127, 127}, {128, -128}, {-128, -128}, {-129, 127}, {255, -1}, {256, 0}, {LEAST, 0},
            {GREATEST, -1}, {33000, -24}};
        for (int[] b : bytes) {
            due(b[0] + " as a byte", laid(0, b[0]).get(0, 0, 0), b[1]);
        }
        int[][] shorts = {{32767, 32767}, {32768, -32768}, {-32768, -32768}, {-32769, 32767}, {65535, -1}, {65536, 0},
            {LEAST, 0}, {GREATEST, -1}, {128, 128}};
        for (int[] b : shorts) {
            due(b[0] + " as a short", laid(1, b[0]).get(0, 1, 0), b[1]);
        }
        for (int v : new int[] {LEAST, LEAST + 1, -32769, 32768, GREATEST}) {
            due(v + " as an int", laid(2, v).get(0, 2, 0), v);
        }
    }

    private static void leastIntAsAnItem() {
        of("BAD: the least int; so are NULL, CAST, INDEX (count() 8 tells).");
        ToldFigures x = laid(2, LEAST);
        due("an item", x.get(0, 2, 0), LEAST);
        due("is no finding", x.count(8), 0);
        due("BAD", x.get(4, 2, 0), LEAST);
        due("is no finding either", x.count(8), 0);
        due("BAD of a form", x.get(0, 3, 0), LEAST);
        due("nor of a form", x.count(8), 0);
        due("INDEX", x.get(0, 2, 1), LEAST);
        due("is 2", x.count(8), 2);
        due("CAST", x.get(0, 1, 0), LEAST);
        due("is 3", x.count(8), 3);
        due("NULL", x.get(1, 1, 0), LEAST);
        due("is 1", x.count(8), 1);
        due("an item again", x.get(0, 2, 0), LEAST);
        due("leaves the latest", x.count(8), 1);
    }

    private static void itemsAre(ToldFigures x, int s, int... items) {
        for (int i = 0; i < items.length; i++) {
            due("item " + i, x.get(s, 2, i), items[i]);
        }
    }

    private static void copyEnds() {
        of("n items of SHEET s, from i on, come to SHEET t .., from j on: 1. .. INDEX: below 0, not so many.");
        ToldFigures x = two(new int[] {1, 2, 3}, new int[] {7, 8, 9, 10});
        due("none", x.copy(0, 0, 1, 0, 0), 1);
        due("none at both ends", x.copy(0, 3, 1, 4, 0), 1);
        due("none behind the first's end", x.copy(0, 4, 1, 4, 0), -12);
        due("none behind the second's end", x.copy(0, 3, 1, 5, 0), -12);
        itemsAre(x, 1, 7, 8, 9, 10);
        due("the last to the last", x.copy(0, 2, 1, 3, 1), 1);
        itemsAre(x, 1, 7, 8, 9, 3);
        due("all to the end", x.copy(0, 0, 1, 1, 3), 1);
        itemsAre(x, 1, 7, 1, 2, 3);
        due("one too many of the first", x.copy(0, 0, 1, 0, 4), -12);
        due("one too many of the second", x.copy(0, 0, 1, 2, 3), -12);
        due("one place too far", x.copy(0, 1, 1, 0, 3), -12);
        itemsAre(x, 1, 7, 1, 2, 3);
        itemsAre(x, 0, 1, 2, 3);
        due("sixty", laidOn(laid(2, alike(60, 4)), 1, 2, alike(60, 5)).copy(0, 0, 1, 0, 60), 1);
        due("none of none", laidOn(laid(2), 1, 2).copy(0, 0, 1, 0, 0), 1);
    }

    private static void copyWithinASheet() {
        of("to SHEET t (perhaps s, as they were)");
        ToldFigures x = laid(2, 1, 2, 3, 4, 5);
        due("one on", x.copy(0, 0, 0, 1, 4), 1);
        itemsAre(x, 0, 1, 1, 2, 3, 4);
        due("one back", x.copy(0, 1, 0, 0, 4), 1);
        itemsAre(x, 0, 1, 2, 3, 4, 4);
        due("to its place", x.copy(0, 0, 0, 0, 5), 1);
        itemsAre(x, 0, 1, 2, 3, 4, 4);
        due("two on", x.copy(0, 0, 0, 2, 3), 1);
        itemsAre(x, 0, 1, 2, 1, 2, 3);
    }

    private static void writeEnds() {
        of("ROWS that CAN BE .. come to a SHEET from item 0 on, as many as there are items: how many.");
        ToldFigures x = typed(1, "");
        laidOn(x, 0, 2, alike(8, 5));
        due("seven rows to eight items", x.write(0), 7);
        itemsAre(x, 0, 1000000, 100000, 10000, 1000, 100, 10, 1, 5);
        laidOn(x, 0, 2, alike(7, 5));
        due("seven to seven", x.write(0), 7);
        itemsAre(x, 0, 1000000, 100000, 10000, 1000, 100, 10, 1);
        laidOn(x, 0, 2, alike(6, 5));
        due("seven to six", x.write(0), 6);
        itemsAre(x, 0, 1000000, 100000, 10000, 1000, 100, 10);
        x.sheet(0, 2, 0);
        due("to no items", x.write(0), 0);
        typedOn(x, "c0=2");
        laidOn(x, 0, 2, 5, 6);
        due("no row", x.write(0), 0);
        itemsAre(x, 0, 5, 6);
        ToldFigures y = typed(9, "c0=0");
        y.sheet(0, 2, 60);
        due("sixty", y.write(0), 60);
        due("the first", y.get(0, 2, 0), 900000);
        due("the last of sixty", y.get(0, 2, 59), y.ranked(59));
    }

    private static void writeLowestBits() {
        of("(as numbers as at put(), the lowest bits)");
        for (int form = 0; form <= 2; form++) {
            ToldFigures x = typed(9, "");
            x.sheet(2, form, 60);
            due("write", x.write(2), 60);
            for (int i = 0; i < 60; i += 7) {
                int number = x.ranked(i);
                due("item " + i + " of form " + form, x.get(2, form, i),
                        form == 0 ? (byte) number : form == 1 ? (short) number : number);
            }
        }
    }

    // ---- the whole object

    private static void counts() {
        of("0 n, 1 TOP, 2 bytes of CLAIMS, 3 BELIEVED (0 with a FAULT), 4 how many SHEETS are not LOST, 8 ..");
        ToldFigures x = typed(9, TEN);
        x.set(1, 0);
        x.sheet(3, 1, 0);
        int[] counts = {9, 0, 39, 1023, 1, BAD, BAD, BAD, 0, BAD};
        for (int what = 0; what < counts.length; what++) {
            due("count(" + what + ")", x.count(what), counts[what]);
        }
        due("count(-1)", x.count(-1), BAD);
        x.type(';');
        due("count(2) with a FAULT", x.count(2), 40);
        due("count(3) with a FAULT", x.count(3), 0);
        x.lose(3);
        due("count(4) of none", x.count(4), 0);
        due("count(8) of none", x.count(8), 0);
    }

    private static void latestFinding() {
        of("8 the number of the latest FINDING (0 before any)");
        ToldFigures x = laidOn(laid(2, 1), 1, 1, 1);
        int[] numbers = {0, -11, -12, -13, -14, -15};
        for (int first = 1; first <= 5; first++) {
            for (int then = 1; then <= 5; then++) {
                due("finding " + first, find(x, first), numbers[first]);
                due("count(8) of " + first, x.count(8), first);
                due("finding " + then, find(x, then), numbers[then]);
                due("count(8) of " + then, x.count(8), then);
            }
            x.set(0, 10);
            x.type(256);
            x.lose(4);
            x.sheet(0, 3, -1);
            x.lay(0, 2, 0, 1);
            x.rows();
            due("no finding", x.count(8), 5);
        }
        due("of a new object", new ToldFigures().count(8), 0);
    }

    private static int find(ToldFigures x, int number) {
        switch (number) {
            case 1: return x.lose(3);
            case 2: return x.lay(0, 2, 1, 1);
            case 3: return x.lay(0, 1, 0, 1);
            case 4: return x.copy(0, 0, 1, 0, 1);
            default: return x.sheet(0, 2, -1);
        }
    }

    private static long mixed(ToldFigures x) {
        long h = 17;
        for (int what = 0; what <= 4; what++) {
            h = 31 * h + x.count(what);
        }
        h = 31 * h + x.fault();
        h = 31 * h + x.claims();
        for (int i = 0; i < x.claims(); i++) {
            for (int what = 0; what <= 4; what++) {
                h = 31 * h + x.claim(i, what);
            }
        }
        h = 31 * h + x.can();
        h = 31 * h + x.alone();
        h = 31 * h + x.fewest();
        return 31 * h + x.ask();
    }

    private static void digestOfAnswers() {
        of("count() 0 to 4; fault(); claims() (as it is told), of each CLAIM claim() 0 to 4; can(), alone(), ..");
        String[] texts = {"", "l=0", TEN, TEN_LONGEST, "c0=5;c1=5", "c0=6;l=0;m=1.5t", TEN + ";", "m", "c7=1", "l=0;"};
        for (String text : texts) {
            ToldFigures x = typed(4, text);
            due("digest() of " + text, x.digest(), mixed(x));
            x.set(1, 3);
            x.sheet(1, 0, 0);
            due("digest() of " + text + " otherwise", x.digest(), mixed(x));
            if (x.believe(x.count(3) / 2) != NOT) {
                due("digest() of " + text + " of some", x.digest(), mixed(x));
            }
        }
        ToldFigures x = new ToldFigures();
        long before = x.digest();
        x.lose(0);
        due("count() 8 is not of it", x.digest(), before);
        x.set(0, 4);
        due("n is of it", x.digest() == before ? 1 : 0, 0);
    }

    private static void digestWraps() {
        of("as longs that wrap");
        java.math.BigInteger h = java.math.BigInteger.valueOf(17);
        ToldFigures x = typedOn(new ToldFigures(), "l=0;g=6;o=3");
        int[] told = {5, 6, 11, 7, 0, -1, 3, 6, 0, -1, 0, 0, 7, 6, -1, 0, 0, 8, 3, -1, 0, 0, x.can(), 0, 0, x.ask()};
        for (int v : told) {
            h = h.multiply(java.math.BigInteger.valueOf(31)).add(java.math.BigInteger.valueOf(v));
        }
        due("it is above a long", h.bitLength() > 64 ? 1 : 0, 1);
        due("digest()", x.digest(), h.longValue());
    }

    private static void objectsApart() {
        of("ToldFigures(): No CLAIMS; all SHEETS are LOST.");
        ToldFigures x = typed(9, "c0=9");
        laidOn(x, 0, 2, 1, 2);
        x.lose(3);
        x.can();
        ToldFigures y = new ToldFigures();
        due("n of another", y.count(0), 5);
        due("claims() of another", y.claims(), 0);
        due("count(4) of another", y.count(4), 0);
        due("count(8) of another", y.count(8), 0);
        due("can() of another", y.can(), 462);
        y.set(0, 1);
        y.sheet(0, 0, 1);
        typedOn(y, "l=6");
        due("can() of another still", y.can(), 1);
        due("can() of the first", x.can(), 1);
        due("ranked(0) of the first", x.ranked(0), 9000000);
        due("get of the first", x.get(0, 2, 1), 2);
    }

    private static void call512() {
        of("An object is used for at most 512 calls after it has been made");
        ToldFigures x = typed(9, "");
        for (int call = 2; call <= 511; call++) {
            x.type('m');
        }
        due("call 512", x.digest(), mixedOfFull());
        ToldFigures y = new ToldFigures();
        for (int call = 1; call <= 511; call++) {
            y.set(call % 2, 1 + call % 6);
        }
        due("call 512 after sets: n is 1, TOP 2", y.rows(), 3);
    }

    private static long mixedOfFull() {
        long h = 17;
        for (int v : new int[] {9, 6, 100, 0, 0, 1, NOT, NOT, NOT, NOT, NOT}) {
            h = 31 * h + v;
        }
        return h;
    }

    // ---- asked anew

    private static void textsAnew() {
        of("CLAIMS are empty: what they had been is not read again");
        for (String text : new String[] {TEN_LONGEST, TEN, "c6=99;h6=999%t;l=6;m=99.99u"}) {
            for (int bytes = 0; bytes <= text.length(); bytes++) {
                String start = text.substring(0, bytes);
                ToldFigures x = typedOn(new ToldFigures(), text);
                x.wipe();
                typedOn(x, start);
                ToldFigures fresh = typedOn(new ToldFigures(), start);
                due("fault() of " + start, x.fault(), fresh.fault());
                due("digest() of " + start, x.digest(), fresh.digest());
            }
        }
    }

    private static void claimsAnew() {
        of("Of a CLAIM: .. 3 figures behind the point, 4 the RULE");
        ToldFigures x = typedOn(new ToldFigures(), "m=12.34t;h6=999%e;c5=12");
        x.wipe();
        typedOn(x, "m=1;h0=5%;l=2");
        int[][] told = {{0, NONE, 1, 0, 0}, {5, 0, 5, 0, 0}, {6, 2, NONE, 0, 0}};
        for (int i = 0; i < told.length; i++) {
            for (int what = 0; what <= 4; what++) {
                due("claim(" + i + ", " + what + ")", x.claim(i, what), told[i][what]);
            }
        }
        x.wipe();
        typedOn(x, "l=2;m=1");
        due("K of m", x.claim(1, 1), NONE);
        due("the number of l", x.claim(0, 2), NONE);
    }

    private static void rowsAnew() {
        of("CAN BE are ROWS [of n MARKS up to TOP] for which all BELIEVED CLAIMS HOLD.");
        ToldFigures x = typed(2, "g=1");
        due("of 2", x.can(), 2);
        x.set(0, 3);
        due("of 3", x.can(), 3);
        x.set(1, 1);
        due("up to 1", x.can(), 3);
        x.set(1, 0);
        due("up to 0", x.can(), 0);
        x.set(1, 6);
        due("up to 6", x.can(), 3);
        x.set(0, 9);
        due("of 9", x.can(), 9);
        due("ranked(8) of 9", x.ranked(8), 900000);
        x.rows();
        x.set(0, 2);
        due("rows() of 2", x.rows(), 28);
        due("of 2 again", x.can(), 2);
        due("the claim of put", x.put(1100000), 1);
        due("of 2 behind put", x.can(), 2);
    }

    /** Nine marks, and then one: the rows behind the seventh are no rows any more. */
    private static void fewerRowsAnew() {
        of("A ROW has n MARKS: rows of more marks are gone with their n");
        ToldFigures x = typed(9, "c6=0;c5=0;c0=7");
        due("alone() of 9", x.alone(), 0);
        due("fewest() of 9", x.fewest(), 0);
        due("quarrel() of 9", x.quarrel(), 0);
        due("ask() of 9", x.ask(), 1);
        x.set(0, 1);
        due("alone() of 1", x.alone(), 4);
        due("fewest() of 1", x.fewest(), 4);
        due("quarrel() of 1", x.quarrel(), 4);
        due("can() of 1", x.can(), 0);
        due("ways() of 1", x.ways(), 0);
        due("ask() of 1", x.ask(), NONE);
        for (int n = 9; n >= 1; n--) {
            for (int top = 6; top >= 0; top--) {
                ToldFigures y = typed(9, "c0=0;m=1.5;l=1;s=1");
                y.digest();
                y.set(0, n);
                y.set(1, top);
                ToldFigures fresh = typed(n, "c0=0;m=1.5;l=1;s=1");
                fresh.set(1, top);
                due("digest() of " + n + " up to " + top, y.digest(), fresh.digest());
                due("quarrel() of " + n + " up to " + top, y.quarrel(), fresh.quarrel());
                due("ways() of " + n + " up to " + top, y.ways(), fresh.ways());
                due("bound(-1, 1) of " + n + " up to " + top, y.bound(NONE, 1), fresh.bound(NONE, 1));
            }
        }
    }

    private static void quarrelsAnew() {
        of("QUARREL: .. 0: there is none. [asked again of another text]");
        ToldFigures x = typed(5, "l=0;g=6;o=0");
        due("none", x.quarrel(), 0);
        x.wipe();
        typedOn(x, "l=0;l=1;l=2");
        due("some", x.quarrel(), 3);
        x.wipe();
        typedOn(x, "c0=6");
        due("one", x.quarrel(), 1);
        x.set(0, 6);
        due("none again", x.quarrel(), 0);
    }

    private static void asksAnew() {
        of("ASK [asked again of another text]");
        ToldFigures x = typed(1, "");
        due("any", x.ask(), 0);
        x.set(0, 3);
        typedOn(x, "m=1.67;l=1");
        due("0 leaves both", x.ask(), 1);
        x.wipe();
        typedOn(x, "c0=0;c1=0;c2=0;c3=0;c4=0");
        due("only 5 and 6", x.ask(), 5);
        x.wipe();
        due("any again", x.ask(), typed(3, "").ask());
    }

    private static void chancesAnew() {
        of("CHANCE [asked again of another SHEET]");
        ToldFigures x = laid(2, 1, 1, 1, 1, 1, 1, 1, 1, 1, 1, 1, 1);
        due("twelve alike", x.lastChance(0), 0);
        laidOn(x, 0, 2, 4, 14, 5);
        due("two of three", x.lastChance(0), 280000);
        due("two of three again", x.lastChance(0), 280000);
        laidOn(x, 1, 2, 4, 14);
        due("two of two", x.lastChance(1), 100000);
        due("two of three still", x.lastChance(0), 280000);
        due("one of two firsts", x.firstChance(1, 1), 511399);
        due("one of two firsts again", x.firstChance(1, 1), 511399);
    }

    private static void copiesAnew() {
        of("COPIES [asked again of other SHEETS]");
        ToldFigures x = two(new int[] {1, 2, 4, 8}, new int[] {0, 2, 3, 5, 9});
        copiesAre(x, 4, 1, 0, 1);
        laidOn(x, 0, 2, 7, 9, 5);
        copiesAre(x, 2, 0, 0, -7);
        laidOn(x, 1, 2, 4);
        copiesAre(x, 1, 0, 0, -3);
        due("the other way", x.copies(1, 0, 3), 3);
        copiesAre(x, 1, 0, 0, -3);
    }

    private static void twiceAnew() {
        of("TWICE [asked again of another SHEET]");
        ToldFigures x = laid(2, 0, 1, 0, 9);
        twiceIs(x, 41, 2, -5, 1, 1);
        laidOn(x, 0, 2, 3, 3);
        twiceIs(x, 0, 1, 0, 1, 0);
        laidOn(x, 0, 2, 9, 0, 0, 1);
        twiceIs(x, 41, 2, 4, 1, 0);
    }
}
