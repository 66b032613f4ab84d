/** Boundary cases of promises 13 to 18: causes, what explains, the least, the plan and its first test. */
final class EdgesOfCauses {
    private static final int LEAST = Integer.MIN_VALUE, MOST = Integer.MAX_VALUE;
    private static final String CAUSE = "A CAUSE: its number. BAD: bits of CHECKS that are not there, or none; FULL: 10.";
    private static final String EXPLAINS_WHEN = "A set of CAUSES EXPLAINS, if, among the CHECKS that ran in a DRIVE that ended"
        + " since CLEARED (or ever), those with a SET CODE are just those that these CAUSES make BAD.";
    private static final String EXPLAINS = "Whether a set of CAUSES (bits) EXPLAINS: 1, 0. BAD.";
    private static final String THE_LEAST =
        "THE LEAST: of all sets that EXPLAIN those with the fewest CAUSES, as numbers rise, the first 10 of them.";
    private static final String HOW_MANY = "How many THE LEAST are (10 at most; 0: nothing EXPLAINS).";
    private static final String THE_ITH = "The i-th of them, as bits. NONE: not so many.";
    private static final String PLAN = "THE PLAN's sum (0: none is needed). NONE: nothing EXPLAINS.";
    private static final String LEAST_SUM =
        "the least sum, over them, of the PRICES of the TESTS that are made if it is the one";
    private static final String TEST = "Its first TEST. NONE: none is needed, or nothing EXPLAINS.";
    private static final String LEAST_NUMBER = "its first TEST is that with the least number by which such a sum may be";
    private static final String SOME_NOT_ALL = "(of CAUSES that are in some, not in all, that are left)";

    private final Due due;

    EdgesOfCauses(Due due) {
        this.due = due;
    }

    void run() {
        causeNumbers();
        causeBits();
        causePrices();
        causeRefused();
        causeInADrive();
        explainsBits();
        explainsNothingRan();
        explainsJustThose();
        explainsSetAlone();
        explainsSinceCleared();
        explainsEnded();
        leastNone();
        leastFewest();
        leastSinceCleared();
        leastTen();
        leastAtEnds();
        leastRising();
        planNone();
        planOne();
        planSums();
        planOfTheFirstTen();
        testNone();
        testLeastNumber();
        testSomeNotAll();
    }

    /** Plain checks, of which those in the bits are set and the others ran good. */
    private static TroubleCodes machine(int checks, int set) {
        TroubleCodes x = Due.plains(checks);
        x.begin();
        for (int c = 0; c < checks; c++) x.ran(c, (set >> c & 1) != 0);
        x.end();
        return x;
    }

    private static void causes(TroubleCodes x, int... checksAndPrices) {
        for (int i = 0; i < checksAndPrices.length; i += 2) x.cause(checksAndPrices[i], checksAndPrices[i + 1]);
    }

    /** One set check, and so many causes that each make it bad, at a price that each have. */
    private static TroubleCodes alike(int causes, int price) {
        TroubleCodes x = machine(1, 1);
        for (int i = 0; i < causes; i++) x.cause(1, price);
        return x;
    }

    private void least(TroubleCodes x, int... sets) {
        due.is("least()", x.least(), sets.length);
        for (int i = 0; i < sets.length; i++) due.is("leastAt(" + i + ")", x.leastAt(i), sets[i]);
    }

    private void causeNumbers() {
        due.edge(13, "CAUSES 0 .. 9, as they come", "the numbers 0 to 9");
        TroubleCodes x = Due.plains(1);
        for (int n = 0; n < 10; n++) due.is("cause(1, 1)", x.cause(1, 1), n);
        due.edge(13, CAUSE, "full");
        long d = x.digest();
        due.refused("cause(1, 1)", x, d, x.cause(1, 1), -4);
        due.is("count(6)", x.count(6), 10);
        due.edge(13, CAUSE, "one that is refused takes no number");
        TroubleCodes y = Due.plains(1);
        y.cause(2, 1);
        due.is("cause(1, 1)", y.cause(1, 1), 0);
    }

    private void causeBits() {
        due.edge(13, CAUSE, "none");
        due.is("cause(0, 1)", Due.plains(16).cause(0, 1), -2);
        due.is("cause(0, 1), no checks", new TroubleCodes().cause(0, 1), -2);
        due.edge(13, CAUSE, "bits just beyond the checks");
        for (int many = 0; many < 17; many++) {
            TroubleCodes x = Due.plains(many);
            due.is("cause(1 << " + many + ", 1)", x.cause(1 << many, 1), -2);
            due.is("all and one more", x.cause((2 << many) - 1, 1), -2);
        }
        due.edge(13, CAUSE, "bits far beyond, the sign's bit");
        for (int bits : new int[] {1 << 30, LEAST, -1, MOST, LEAST | 1, 0xffff0000}) {
            due.is("cause(" + bits + ", 1), 16 checks", Due.plains(16).cause(bits, 1), -2);
            due.is("cause(" + bits + ", 1), no checks", new TroubleCodes().cause(bits, 1), -2);
        }
        due.edge(13, CAUSE, "the first, the last, all of those that are there");
        for (int many = 1; many < 17; many++) {
            TroubleCodes x = Due.plains(many);
            due.is("cause(1, 1)", x.cause(1, 1), 0);
            due.is("the last of " + many, x.cause(1 << many - 1, 1), 1);
            due.is("all " + many, x.cause((1 << many) - 1, 1), 2);
        }
        due.edge(13, CAUSE, "a check that has come since");
        TroubleCodes y = Due.plains(1);
        due.is("cause(2, 1)", y.cause(2, 1), -2);
        Due.plain(y, 0);
        due.is("cause(2, 1)", y.cause(2, 1), 0);
    }

    private void causePrices() {
        String sentence = "a PRICE of a test (1 .. 1000)";
        TroubleCodes x = Due.plains(1);
        due.edge(13, sentence, "too small");
        for (int price : new int[] {0, -1, LEAST}) due.is("cause(1, " + price + ")", x.cause(1, price), -2);
        due.edge(13, sentence, "too large");
        for (int price : new int[] {1001, MOST}) due.is("cause(1, " + price + ")", x.cause(1, price), -2);
        due.edge(13, sentence, "1 and 1000");
        due.is("cause(1, 1)", x.cause(1, 1), 0);
        due.is("cause(1, 1000)", x.cause(1, 1000), 1);
    }

    private void causeRefused() {
        due.edge(13, "Refused, changing nothing, the first of: BAD -2 a number is not as told; NO -3 as told; FULL -4.",
            "cause: bad ahead of full");
        TroubleCodes x = alike(10, 1);
        long d = x.digest();
        due.refused("cause(2, 1)", x, d, x.cause(2, 1), -2);
        due.refused("cause(0, 1)", x, d, x.cause(0, 1), -2);
        due.refused("cause(1, 1001)", x, d, x.cause(1, 1001), -2);
        due.edge(13, "Refused, changing nothing", "cause: the least stay");
        due.is("least()", x.least(), 10);
        due.is("cause(1, 1)", x.cause(1, 1), -4);
        due.is("least()", x.least(), 10);
        due.is("plan()", x.plan(), 54);
        due.is("explains(1024)", x.explains(1024), -2);
    }

    private void causeInADrive() {
        due.edge(13, CAUSE, "no drive's refusal is told of");
        TroubleCodes x = machine(1, 1);
        x.begin();
        due.is("cause(1, 1)", x.cause(1, 1), 0);
        due.is("least()", x.least(), 1);
    }

    private void explainsBits() {
        due.edge(14, EXPLAINS, "no causes");
        TroubleCodes x = machine(1, 0);
        due.is("explains(0)", x.explains(0), 1);
        for (int set : new int[] {1, -1, LEAST, MOST}) due.is("explains(" + set + ")", x.explains(set), -2);
        due.edge(14, EXPLAINS, "bits just beyond the causes");
        for (int many = 1; many < 11; many++) {
            x.cause(1, 1);
            due.is("explains(1 << " + many + ")", x.explains(1 << many), -2);
            due.is("explains(1 << " + many + " | 1)", x.explains(1 << many | 1), -2);
            due.is("the last", x.explains(1 << many - 1), 0);
            due.is("all", x.explains((1 << many) - 1), 0);
        }
        due.edge(14, EXPLAINS, "bits far beyond, the sign's bit");
        for (int set : new int[] {-1, LEAST, MOST, 1 << 30, LEAST | 1}) due.is("explains(" + set + ")", x.explains(set), -2);
    }

    private void explainsNothingRan() {
        due.edge(14, EXPLAINS_WHEN, "no check ran: each set explains");
        TroubleCodes x = Due.plains(2);
        due.is("explains(0), no causes", x.explains(0), 1);
        causes(x, 1, 1, 3, 1);
        for (int set = 0; set < 4; set++) due.is("explains(" + set + ")", x.explains(set), 1);
        due.edge(14, EXPLAINS_WHEN, "no checks");
        due.is("explains(0)", new TroubleCodes().explains(0), 1);
    }

    private void explainsJustThose() {
        TroubleCodes x = machine(16, 0x8003);
        causes(x, 0x0001, 1, 0x0003, 1, 0x8000, 1, 0xc000, 1, 0x8003, 1);
        due.edge(14, EXPLAINS_WHEN, "one too few");
        for (int set : new int[] {0b00000, 0b00001, 0b00010, 0b00100, 0b00101}) due.is("explains(" + set + ")", x.explains(set), 0);
        due.edge(14, EXPLAINS_WHEN, "one too many");
        for (int set : new int[] {0b01010, 0b01110, 0b11000}) due.is("explains(" + set + ")", x.explains(set), 0);
        due.edge(14, EXPLAINS_WHEN, "just those, by one, by two, by two for the same");
        for (int set : new int[] {0b10000, 0b00110, 0b00111, 0b10111}) due.is("explains(" + set + ")", x.explains(set), 1);
        due.edge(14, "have CHECKS (bits) that they make BAD for sure", "a cause whose other check ran good is not there");
        TroubleCodes w = machine(2, 1);
        causes(w, 3, 1, 1, 1);
        for (int set = 0; set < 4; set++) due.is("explains(" + set + ")", w.explains(set), set == 2 ? 1 : 0);
        due.edge(14, EXPLAINS_WHEN, "none is set: no cause");
        TroubleCodes y = machine(2, 0);
        y.cause(1, 1);
        due.is("explains(0)", y.explains(0), 1);
        due.is("explains(1)", y.explains(1), 0);
        due.edge(14, EXPLAINS_WHEN, "all 16 are set");
        TroubleCodes z = machine(16, 0xffff);
        causes(z, 0xffff, 1, 0x7fff, 1);
        due.is("explains(1)", z.explains(1), 1);
        due.is("explains(2)", z.explains(2), 0);
    }

    private void explainsSetAlone() {
        due.edge(14, "those with a SET CODE", "pending, set, healed, none");
        TroubleCodes x = new TroubleCodes();
        x.check(0, 0, 2, 1, 2, 0, false);
        x.cause(1, 1);
        int[] want = {0, 1, 0, 0};
        String[] drives = {"B", "B", "G", ""};
        for (int i = 0; i < 4; i++) {
            Due.drive(x, drives[i]);
            due.is("explains(1), code " + x.about(0, 0), x.explains(1), want[i]);
            due.is("explains(0), code " + x.about(0, 0), x.explains(0), 1 - want[i]);
        }
    }

    private void explainsSinceCleared() {
        due.edge(14, "since CLEARED (or ever)", "never cleared: drives long ago");
        TroubleCodes x = machine(2, 1);
        Due.drives(x, 100, "");
        causes(x, 1, 1, 2, 1);
        for (int set = 0; set < 4; set++) due.is("explains(" + set + ")", x.explains(set), set == 1 ? 1 : 0);
        due.edge(14, "since CLEARED (or ever)", "cleared, none ran since");
        x.clear();
        for (int set = 0; set < 4; set++) due.is("explains(" + set + ")", x.explains(set), 1);
        due.edge(14, "since CLEARED (or ever)", "one ran since");
        Due.drive(x, ".G");
        for (int set = 0; set < 4; set++) due.is("explains(" + set + ")", x.explains(set), set < 2 ? 1 : 0);
        due.edge(14, "since CLEARED (or ever)", "a permanent one that is set and did not run since, then ran");
        TroubleCodes y = new TroubleCodes();
        Due.permanent(y, 0);
        y.cause(1, 1);
        Due.drive(y, "B");
        y.clear();
        due.is("explains(0)", y.explains(0), 1);
        due.is("explains(1)", y.explains(1), 1);
        Due.drive(y, "B");
        due.is("explains(0)", y.explains(0), 0);
        due.is("explains(1)", y.explains(1), 1);
    }

    private void explainsEnded() {
        due.edge(14, "that ran in a DRIVE that ended", "a drive that goes is not looked at");
        TroubleCodes x = Due.plains(1);
        x.cause(1, 1);
        x.begin();
        x.ran(0, false);
        due.is("explains(1)", x.explains(1), 1);
        due.is("least()", x.least(), 1);
        x.end();
        due.is("explains(1)", x.explains(1), 0);
        x.begin();
        x.ran(0, true);
        due.is("explains(0)", x.explains(0), 1);
        x.end();
        due.is("explains(0)", x.explains(0), 0);
        due.is("leastAt(0)", x.leastAt(0), 1);
    }

    private void leastNone() {
        due.edge(15, HOW_MANY, "a new object: no cause explains");
        least(new TroubleCodes(), 0);
        due.edge(15, HOW_MANY, "nothing explains: no causes");
        TroubleCodes x = machine(2, 1);
        due.is("least()", x.least(), 0);
        due.edge(15, HOW_MANY, "nothing explains: not with all causes");
        causes(x, 2, 1, 3, 1);
        due.is("least()", x.least(), 0);
        due.edge(15, HOW_MANY, "one explains, as its cause comes");
        x.cause(1, 1);
        due.is("least()", x.least(), 1);
        due.edge(15, HOW_MANY, "nothing explains any more");
        Due.drive(x, ".B");
        due.is("least(), both are set", x.least(), 1);
        due.is("leastAt(0), both are set", x.leastAt(0), 0b010);
        Due.drive(x, "G");
        due.is("least(), one is set", x.least(), 1);
        due.is("leastAt(0), one is set", x.leastAt(0), 0b001);
        Due.plain(x, 0);
        Due.drive(x, "..B");
        due.is("least(), one that none makes bad is set", x.least(), 0);
    }

    private void leastFewest() {
        due.edge(15, THE_LEAST, "no cause at all");
        TroubleCodes x = Due.plains(1);
        causes(x, 1, 1, 1, 1);
        least(x, 0);
        due.edge(15, THE_LEAST, "one cause, where two do too");
        TroubleCodes y = machine(2, 3);
        causes(y, 1, 1, 2, 1);
        least(y, 0b011);
        y.cause(3, 1000);
        least(y, 0b100);
        due.edge(15, THE_LEAST, "all ten causes");
        TroubleCodes z = machine(16, 0x3ff);
        for (int i = 0; i < 10; i++) z.cause(1 << i, 1);
        least(z, 1023);
        due.edge(15, THE_LEAST, "nine of ten, in two ways");
        TroubleCodes w = machine(9, 0x1ff);
        for (int i = 0; i < 10; i++) w.cause(1 << Math.min(i, 8), 1);
        least(w, 0b0111111111, 0b1011111111);
    }

    private void leastSinceCleared() {
        due.edge(15, "since CLEARED (or ever)", "a permanent one that is set: ahead of clearing, after it, run again");
        TroubleCodes x = new TroubleCodes();
        Due.permanent(x, 0);
        causes(x, 1, 3, 1, 4);
        Due.drive(x, "B");
        least(x, 1, 2);
        due.is("plan()", x.plan(), 6);
        x.clear();
        least(x, 0);
        due.is("plan()", x.plan(), 0);
        Due.drive(x, "B");
        least(x, 1, 2);
        due.is("plan()", x.plan(), 6);
    }

    private void leastTen() {
        due.edge(15, HOW_MANY, "9, 10");
        due.is("least()", alike(9, 1).least(), 9);
        due.is("least()", alike(10, 1).least(), 10);
        due.edge(15, THE_LEAST, "12, of them the first 10");
        TroubleCodes x = machine(2, 3);
        causes(x, 1, 1, 1, 1, 1, 1, 2, 1, 2, 1, 2, 1, 2, 1);
        least(x, 0b1001, 0b1010, 0b1100, 0b10001, 0b10010, 0b10100, 0b100001, 0b100010, 0b100100, 0b1000001);
        due.edge(15, THE_LEAST, "25, of them the first 10");
        TroubleCodes y = machine(2, 3);
        for (int i = 0; i < 10; i++) y.cause(1 + i / 5, 1);
        due.is("least()", y.least(), 10);
        for (int i = 0; i < 10; i++) due.is("leastAt(" + i + ")", y.leastAt(i), 1 << 5 + i / 5 | 1 << i % 5);
    }

    private void leastAtEnds() {
        due.edge(16, THE_ITH, "as many as there are, and more");
        TroubleCodes x = alike(3, 1);
        due.is("leastAt(2)", x.leastAt(2), 4);
        for (int i : new int[] {3, 9, 10, MOST}) due.is("leastAt(" + i + ")", x.leastAt(i), -1);
        due.edge(16, THE_ITH, "less than 0");
        for (int i : new int[] {-1, LEAST}) due.is("leastAt(" + i + ")", x.leastAt(i), -1);
        due.edge(16, THE_ITH, "nothing explains");
        due.is("leastAt(0)", machine(1, 1).leastAt(0), -1);
        due.edge(16, THE_ITH, "the 10th and the 11th of more than ten");
        TroubleCodes y = machine(2, 3);
        for (int i = 0; i < 10; i++) y.cause(1 + i % 2, 1);
        due.is("least()", y.least(), 10);
        due.is("leastAt(10)", y.leastAt(10), -1);
        due.edge(16, THE_ITH, "the 10th of ten");
        due.is("leastAt(9)", alike(10, 1).leastAt(9), 512);
        due.edge(16, THE_ITH, "fewer than there were");
        x.clear();
        due.is("leastAt(0)", x.leastAt(0), 0);
        due.is("leastAt(1)", x.leastAt(1), -1);
    }

    private void leastRising() {
        due.edge(16, "as numbers rise", "a set's number is that of its bits: 6 ahead of 9");
        TroubleCodes x = machine(4, 0b1111);
        causes(x, 0b0011, 1, 0b0101, 1, 0b1010, 1, 0b1100, 1);
        least(x, 0b0110, 0b1001);
    }

    private void planNone() {
        due.edge(17, PLAN, "nothing explains: no causes, not with all causes");
        TroubleCodes x = machine(2, 1);
        due.is("plan()", x.plan(), -1);
        causes(x, 2, 1, 3, 1);
        due.is("plan()", x.plan(), -1);
        due.edge(17, PLAN, "none is needed: no cause, one set");
        due.is("plan(), new", new TroubleCodes().plan(), 0);
        x.cause(1, 1000);
        due.is("plan()", x.plan(), 0);
        due.edge(17, PLAN, "nothing explains any more");
        x.cause(1, 10);
        due.is("plan()", x.plan(), 2 * 10);
        Due.plain(x, 0);
        Due.drive(x, "..B");
        due.is("plan()", x.plan(), -1);
        due.edge(17, PLAN, "ten causes, one set of them all");
        TroubleCodes y = machine(10, 1023);
        for (int i = 0; i < 10; i++) y.cause(1 << i, 1000);
        due.is("plan()", y.plan(), 0);
    }

    private void planOne() {
        due.edge(17, LEAST_SUM, "two: one test, made for each of them");
        due.is("prices 1", alike(2, 1).plan(), 2);
        due.is("prices 1000", alike(2, 1000).plan(), 2000);
        due.edge(17, LEAST_SUM, "two: the lower price");
        TroubleCodes x = machine(1, 1);
        causes(x, 1, 1000, 1, 999);
        due.is("plan()", x.plan(), 2 * 999);
    }

    private void planSums() {
        due.edge(17, "A TEST of a CAUSE tells whether it is there.", "two sets apart by two causes: one test, there or not");
        TroubleCodes z = machine(4, 0b1111);
        causes(z, 0b0011, 9, 0b1100, 8, 0b0101, 7, 0b1010, 6);
        least(z, 0b0011, 0b1100);
        due.is("plan()", z.plan(), 2 * 6);
        due.edge(17, "TESTS till one of them alone is left", "ten: the last two need one more, at the highest price");
        due.is("plan()", alike(10, 1000).plan(), 54 * 1000);
        due.edge(17, LEAST_SUM, "the cheapest test first is not the least sum");
        // The sets 0 and 1, 0 and 2, 3 and 4, 3 and 5: the tests of 0 and 3 halve them, the others take one off.
        int[] halves = {0b0011, 6, 0b1100, 5, 0b1100, 5, 0b0101, 6, 0b1010, 5, 0b1010, 5};
        TroubleCodes x = machine(4, 0b1111);
        causes(x, halves);
        least(x, 0b000011, 0b000101, 0b011000, 0b101000);
        due.is("plan()", x.plan(), 4 * 6 + 2 * 5 + 2 * 5);
        due.edge(17, LEAST_SUM, "the dearer test that halves is one too dear");
        halves[1] = 7;
        halves[7] = 7;
        TroubleCodes y = machine(4, 0b1111);
        causes(y, halves);
        due.is("plan()", y.plan(), 4 * 5 + 3 * 5 + 2 * 5);
    }

    private void planOfTheFirstTen() {
        due.edge(17, "THE PLAN for THE LEAST", "25 explain: the plan is for the first 10 of them");
        TroubleCodes x = machine(2, 3);
        for (int i = 0; i < 10; i++) x.cause(1 + i / 5, i < 7 ? 10 : 1);
        // Five by two: the five take 5 + 4 + 3 + 2 tests, for each of the two; the two take one test for each of ten.
        due.is("plan()", x.plan(), 10 * (2 * 14 + 10));
        due.edge(18, "THE PLAN for THE LEAST", "25 explain: causes of none of the first 10 are no tests");
        due.is("test()", x.test(), 0);
    }

    private void testNone() {
        due.edge(18, TEST, "nothing explains");
        TroubleCodes x = machine(2, 1);
        x.cause(3, 1);
        due.is("test()", x.test(), -1);
        due.edge(18, TEST, "none is needed");
        x.cause(1, 1);
        due.is("test(), one set", x.test(), -1);
        due.is("test(), new", new TroubleCodes().test(), -1);
        due.edge(18, TEST, "one more cause: a test is needed");
        x.cause(1, 2);
        due.is("test()", x.test(), 1);
        due.edge(18, TEST, "nothing explains any more");
        Due.plain(x, 0);
        Due.drive(x, "..B");
        due.is("test()", x.test(), -1);
        due.edge(18, TEST, "a test is needed again, none is needed any more");
        Due.drive(x, "..G");
        due.is("test()", x.test(), 1);
        x.clear();
        due.is("test()", x.test(), -1);
    }

    private void testLeastNumber() {
        due.edge(18, LEAST_NUMBER, "like prices: 0 of ten");
        due.is("test()", alike(10, 1000).test(), 0);
        due.edge(18, LEAST_NUMBER, "the last of ten is the cheapest by one");
        TroubleCodes x = alike(9, 1000);
        x.cause(1, 999);
        due.is("test()", x.test(), 9);
        due.edge(18, LEAST_NUMBER, "a dearer test of a lower number, with the same sum");
        TroubleCodes y = machine(2, 3);
        causes(y, 1, 9, 1, 8, 2, 5, 2, 5);
        due.is("plan()", y.plan(), 4 * 8 + 4 * 5);
        due.is("test()", y.test(), 1);
        due.edge(18, LEAST_NUMBER, "a lower number whose sum is more by one test");
        TroubleCodes z = machine(4, 0b1111);
        causes(z, 0b1100, 5, 0b1100, 5, 0b0011, 6, 0b1010, 5, 0b1010, 5, 0b0101, 6);
        due.is("plan()", z.plan(), 4 * 6 + 4 * 5);
        due.is("test()", z.test(), 2);
    }

    private void testSomeNotAll() {
        due.edge(18, SOME_NOT_ALL, "a cause in all of them, however cheap");
        TroubleCodes x = machine(2, 3);
        causes(x, 1, 1, 2, 1000, 2, 1000);
        least(x, 0b011, 0b101);
        due.is("plan()", x.plan(), 2000);
        due.is("test()", x.test(), 1);
        due.edge(18, SOME_NOT_ALL, "a cause in none of them, however cheap");
        TroubleCodes y = machine(3, 3);
        causes(y, 4, 1, 7, 1, 1, 1, 3, 1000, 3, 999);
        least(y, 0b01000, 0b10000);
        due.is("plan()", y.plan(), 2 * 999);
        due.is("test()", y.test(), 4);
    }
}
