/** Promises 13 to 18: causes, what explains, the least, the plan and its first test. */
public final class CausesTest {
    private static final Due due = new Due();

    public static void main(String[] args) {
        causeNumbers();
        causeInADrive();
        explains();
        explainsOnlyAmongThoseThatRan();
        explainsCodesAsTheyAre();
        leastOfNothing();
        leastNone();
        leastFewest();
        leastInOrder();
        leastTenAtMost();
        leastMovesWithCauses();
        leastMovesWithDrives();
        leastMovesWithClear();
        askedFirst();
        checkThatDidNotRun();
        planOfTwo();
        planWeighs();
        planLeastNumberOfLikeOnes();
        planOnlyTellingTests();
        planOfPairs();
        planOfTen();
        due.finish();
    }

    /** A machine with so many plain checks of which those in the bits are set and the others ran good. */
    private static TroubleCodes machine(int checks, int set) {
        TroubleCodes x = new TroubleCodes();
        for (int c = 0; c < checks; c++) Due.plain(x, 0);
        x.begin();
        for (int c = 0; c < checks; c++) x.ran(c, (set >> c & 1) != 0);
        x.end();
        return x;
    }

    private static void least(String what, TroubleCodes x, int... sets) {
        due.is(what + ": least", x.least(), sets.length);
        for (int i = 0; i < sets.length; i++) due.is(what + ": leastAt " + i, x.leastAt(i), sets[i]);
        due.is(what + ": leastAt the end", x.leastAt(sets.length), -1);
        for (int set : sets) due.is(what + ": explains " + set, x.explains(set), 1);
    }

    private static void causeNumbers() {
        TroubleCodes x = machine(2, 0);
        due.is("cause", x.cause(1, 1), 0);
        due.is("cause", x.cause(3, 1000), 1);
        due.is("cause like another", x.cause(1, 1), 2);
        due.is("count", x.count(6), 3);
        TroubleCodes y = machine(16, 0);
        due.is("all checks", y.cause(0xffff, 5), 0);
        due.is("the last check", y.cause(0x8000, 5), 1);
    }

    private static void causeInADrive() {
        TroubleCodes x = machine(1, 1);
        x.begin();
        due.is("cause in a drive", x.cause(1, 1), 0);
        least("in a drive", x, 1);
        due.is("plan in a drive", x.plan(), 0);
    }

    private static void explains() {
        TroubleCodes x = machine(4, 0b0111);
        x.cause(0b0001, 1);
        x.cause(0b0110, 1);
        x.cause(0b0011, 1);
        x.cause(0b1000, 1);
        for (int set = 0; set < 16; set++) {
            int due1 = set == 0b0011 || set == 0b0110 || set == 0b0111 ? 1 : 0;
            due.is("explains " + set, x.explains(set), due1);
        }
    }

    private static void explainsOnlyAmongThoseThatRan() {
        TroubleCodes x = new TroubleCodes();
        for (int c = 0; c < 3; c++) Due.plain(x, 0);
        Due.permanent(x, 0);
        x.cause(0b0011, 1);
        x.cause(0b0110, 1);
        x.cause(0b1000, 1);
        Due.drive(x, "BG.B");
        due.is("check 1 ran and is not set", x.explains(1), 0);
        x.clear();
        Due.drive(x, "B...");
        due.is("check 1 did not run since", x.explains(1), 1);
        due.is("check 2 never ran: a cause more is one too many for none", x.explains(3), 1);
        due.is("the permanent one is set but did not run since", x.explains(5), 1);
        due.is("without cause 0", x.explains(2), 0);
        least("since cleared", x, 1);
        Due.drive(x, "...G");
        due.is("the permanent one healed", x.about(3, 0), 3);
        due.is("it ran and is not set", x.explains(5), 0);
        Due.drive(x, "...B");
        least("it is set", x, 5);
    }

    private static void explainsCodesAsTheyAre() {
        TroubleCodes x = new TroubleCodes();
        x.check(0, 0, 2, 1, 9, 0, false);
        x.cause(1, 1);
        Due.drive(x, "B");
        least("pending is not set", x, 0);
        Due.drive(x, "B");
        least("set", x, 1);
        Due.drive(x, "G");
        least("healed is not set", x, 0);
    }

    private static void leastOfNothing() {
        TroubleCodes x = new TroubleCodes();
        least("new", x, 0);
        due.is("plan", x.plan(), 0);
        due.is("test", x.test(), -1);
        TroubleCodes y = machine(3, 0);
        y.cause(7, 1);
        least("nothing is set", y, 0);
        due.is("plan", y.plan(), 0);
        due.is("test", y.test(), -1);
    }

    private static void leastNone() {
        TroubleCodes x = machine(3, 0b101);
        least("no causes", x);
        due.is("plan", x.plan(), -1);
        due.is("test", x.test(), -1);
        x.cause(0b011, 1);
        x.cause(0b100, 1);
        least("none of the causes", x);
        due.is("plan", x.plan(), -1);
        due.is("test", x.test(), -1);
        due.is("explains 0", x.explains(0), 0);
    }

    private static void leastFewest() {
        TroubleCodes x = machine(4, 0b1111);
        x.cause(0b0001, 1);
        x.cause(0b0010, 1);
        x.cause(0b0100, 1);
        x.cause(0b1000, 1);
        least("four", x, 0b1111);
        x.cause(0b0011, 1);
        least("three", x, 0b11100);
        x.cause(0b0111, 1);
        least("two", x, 0b101000);
        x.cause(0b1111, 1);
        least("one", x, 0b1000000);
        due.is("more causes explain too", x.explains(0b1111111), 1);
    }

    private static void leastInOrder() {
        TroubleCodes x = machine(2, 3);
        x.cause(1, 1);
        x.cause(1, 1);
        x.cause(2, 1);
        x.cause(2, 1);
        least("numbers rise", x, 0b0101, 0b0110, 0b1001, 0b1010);
    }

    private static void leastTenAtMost() {
        TroubleCodes x = machine(2, 3);
        for (int i = 0; i < 10; i++) x.cause(i < 5 ? 1 : 2, 1);
        int[] sets = new int[10];
        for (int i = 0; i < 10; i++) sets[i] = 1 << 5 + i / 5 | 1 << i % 5;
        least("ten of 25", x, sets);
        TroubleCodes y = machine(1, 1);
        for (int i = 0; i < 10; i++) y.cause(1, 1);
        least("ten of ten", y, 1, 2, 4, 8, 16, 32, 64, 128, 256, 512);
        TroubleCodes z = machine(10, 1023);
        for (int i = 0; i < 10; i++) z.cause(1 << i, 1);
        least("all ten causes", z, 1023);
    }

    private static void leastMovesWithCauses() {
        TroubleCodes x = machine(2, 1);
        least("none", x);
        due.is("plan", x.plan(), -1);
        x.cause(3, 1);
        least("wrong one", x);
        x.cause(1, 7);
        least("one", x, 2);
        due.is("plan", x.plan(), 0);
        x.cause(1, 5);
        least("two", x, 2, 4);
        due.is("plan", x.plan(), 10);
        due.is("test", x.test(), 2);
    }

    private static void leastMovesWithDrives() {
        TroubleCodes x = new TroubleCodes();
        Due.plain(x, 0);
        Due.plain(x, 0);
        x.cause(1, 4);
        x.cause(3, 4);
        x.cause(2, 4);
        Due.drive(x, "B.");
        least("check 1 did not run", x, 1, 2);
        due.is("plan", x.plan(), 8);
        due.is("test", x.test(), 0);
        x.begin();
        x.ran(1, true);
        least("not ended", x, 1, 2);
        x.end();
        least("both set", x, 2);
        due.is("plan", x.plan(), 0);
        due.is("test", x.test(), -1);
        Due.drive(x, "G.");
        least("one healed", x, 4);
    }

    private static void leastMovesWithClear() {
        TroubleCodes x = machine(1, 1);
        x.cause(1, 4);
        x.cause(1, 4);
        due.is("plan", x.plan(), 8);
        x.clear();
        least("cleared", x, 0);
        due.is("plan", x.plan(), 0);
        due.is("test", x.test(), -1);
    }

    /** Each of the four asked ahead of the others, as the codes changed. */
    private static void askedFirst() {
        for (int asked = 0; asked < 4; asked++) {
            TroubleCodes x = new TroubleCodes();
            Due.plain(x, 0);
            Due.plain(x, 0);
            x.cause(1, 4);
            x.cause(1, 3);
            due.is("new, asked " + asked, ask(x, asked), new int[] {1, 0, 0, -1}[asked]);
            Due.drive(x, "B");
            due.is("two explain, asked " + asked, ask(x, asked), new int[] {2, 1, 6, 1}[asked]);
            Due.drive(x, ".B");
            due.is("nothing explains, asked " + asked, ask(x, asked), new int[] {0, -1, -1, -1}[asked]);
            Due.drive(x, "GG");
            due.is("healed, asked " + asked, ask(x, asked), new int[] {1, 0, 0, -1}[asked]);
        }
    }

    private static int ask(TroubleCodes x, int asked) {
        if (asked == 0) return x.least();
        if (asked == 1) return x.leastAt(0);
        return asked == 2 ? x.plan() : x.test();
    }

    private static void checkThatDidNotRun() {
        TroubleCodes x = new TroubleCodes();
        Due.permanent(x, 0);
        Due.plain(x, 0);
        x.cause(2, 1);
        x.cause(3, 1);
        Due.drive(x, "B.");
        x.clear();
        Due.drive(x, ".B");
        due.is("check 0 is set still", x.about(0, 0), 2);
        least("check 0 did not run since", x, 1, 2);
        Due.drive(x, "B.");
        least("check 0 ran since", x, 2);
    }

    private static void planOfTwo() {
        TroubleCodes x = machine(2, 3);
        x.cause(3, 9);
        x.cause(3, 4);
        due.is("plan", x.plan(), 8);
        due.is("the cheaper test", x.test(), 1);
        TroubleCodes y = machine(2, 3);
        y.cause(1, 1);
        y.cause(3, 1000);
        y.cause(3, 1000);
        due.is("plan", y.plan(), 2000);
        due.is("of like prices the least number that tells", y.test(), 1);
    }

    private static void planWeighs() {
        TroubleCodes x = machine(1, 1);
        x.cause(1, 10);
        x.cause(1, 3);
        x.cause(1, 4);
        // 3 for all three, then 4 for the two that are left.
        due.is("plan", x.plan(), 3 * 3 + 2 * 4);
        due.is("test", x.test(), 1);
    }

    private static void planLeastNumberOfLikeOnes() {
        TroubleCodes x = machine(1, 1);
        for (int i = 0; i < 5; i++) x.cause(1, 2);
        // One after the other: 5 + 4 + 3 + 2 tests.
        due.is("plan", x.plan(), 2 * 14);
        due.is("test", x.test(), 0);
    }

    private static void planOnlyTellingTests() {
        TroubleCodes x = machine(2, 3);
        x.cause(1, 1);
        x.cause(2, 50);
        x.cause(2, 60);
        least("the first cause is in all", x, 0b011, 0b101);
        due.is("plan", x.plan(), 100);
        due.is("test", x.test(), 1);
    }

    private static void planOfPairs() {
        TroubleCodes x = machine(2, 3);
        x.cause(1, 6);
        x.cause(1, 7);
        x.cause(2, 3);
        x.cause(2, 5);
        due.is("plan", x.plan(), 4 * 3 + 2 * 6 + 2 * 6);
        due.is("test", x.test(), 0);
    }

    private static void planOfTen() {
        TroubleCodes x = machine(1, 1);
        for (int i = 0; i < 10; i++) x.cause(1, 1000);
        due.is("plan", x.plan(), 54 * 1000);
        due.is("test", x.test(), 0);
        TroubleCodes y = machine(1, 1);
        for (int i = 0; i < 10; i++) y.cause(1, 1000 - i);
        due.is("test: the cheapest first", y.test(), 9);
        long sum = 0;
        for (int left = 10; left > 1; left--) sum += (long) left * (1000 - (left - 1));
        due.is("plan", y.plan(), sum);
    }
}
