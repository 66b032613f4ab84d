import java.math.BigInteger;
import java.util.ArrayList;
import java.util.List;

/** Boundary cases of promises 19 to 22: which code foretells which, how often codes were set, counts, the digest. */
final class EdgesOfCounts {
    private static final int LEAST = Integer.MIN_VALUE, MOST = Integer.MAX_VALUE;
    private static final String FORETELLS_HOW = "FORETELLS: of all DRIVES that ended, in how many a CHECK became SET (that was not)"
        + " with the CODE of one (perhaps its own) PENDING or SET as the DRIVE began.";
    private static final String FORETELLS = "FORETELLS: in how many DRIVES check became SET with other so. BAD.";
    private static final String SETS = "In how many DRIVES a CHECK became SET at all. BAD.";
    private static final String COUNT = "How many: 0 CHECKS, 1 DRIVES ended, 2 PENDING, 3 SET, 4 HEALED, 5 FROZEN, 6 CAUSES,"
        + " 7 whether a DRIVE goes. BAD.";
    private static final String DIGEST = "h = 211; then h = 31 h + v for each v: count(0) to count(7); of CHECKS about(.., 0)"
        + " to (.., 7), frozenAt(), frozen(.., 0) to (.., 3), sets(); FACTS; of CAUSES CHECKS, PRICE.";

    private final Due due;

    EdgesOfCounts(Due due) {
        this.due = due;
    }

    void run() {
        foretellsRefused();
        foretellsByEachCode();
        foretellsAsTheDriveBegan();
        foretellsOwn();
        foretellsEnded();
        foretellsBecameSet();
        foretellsAll();
        setsRefused();
        setsCounted();
        countRefused();
        countsLeast();
        countsMost();
        digestOfNew();
        digestOfAFullOne();
        digestOfEach();
        digestUnchanged();
        calls512();
    }

    private void foretellsRefused() {
        due.edge(19, FORETELLS, "a check that is not there");
        TroubleCodes x = Due.plains(2);
        for (int c : new int[] {-1, 2, 15, 16, LEAST, MOST}) {
            due.is("foretells(" + c + ", 0)", x.foretells(c, 0), -2);
            due.is("foretells(0, " + c + ")", x.foretells(0, c), -2);
            due.is("foretells(" + c + ", " + c + ")", x.foretells(c, c), -2);
        }
        due.is("foretells(0, 0), no checks", new TroubleCodes().foretells(0, 0), -2);
        due.edge(19, FORETELLS, "16 checks: the last, one beyond");
        TroubleCodes y = Due.plains(16);
        due.is("foretells(15, 15)", y.foretells(15, 15), 0);
        due.is("foretells(16, 15)", y.foretells(16, 15), -2);
        due.is("foretells(15, 16)", y.foretells(15, 16), -2);
    }

    private void foretellsByEachCode() {
        due.edge(19, FORETELLS_HOW, "the other none, pending, set, healed as the drive began");
        TroubleCodes x = new TroubleCodes();
        x.check(0, 0, 2, 1, 90, 0, false);
        for (int i = 0; i < 4; i++) Due.plain(x, 0);
        Due.drive(x, ".B");
        due.is("none", x.foretells(0, 1), 0);
        Due.drive(x, "B");
        Due.drive(x, "..B");
        due.is("pending", x.foretells(0, 2), 1);
        Due.drive(x, "B");
        Due.drive(x, "...B");
        due.is("set", x.foretells(0, 3), 1);
        Due.drive(x, "G");
        Due.drive(x, "....B");
        due.is("healed", x.foretells(0, 4), 0);
    }

    private void foretellsAsTheDriveBegan() {
        due.edge(19, "PENDING or SET as the DRIVE began", "the other becomes set in the same drive");
        TroubleCodes x = Due.plains(3);
        Due.drive(x, "BBB");
        for (int c = 0; c < 9; c++) due.is("foretells(" + c / 3 + ", " + c % 3 + ")", x.foretells(c / 3, c % 3), 0);
        due.edge(19, "PENDING or SET as the DRIVE began", "the other is healed, is none, as the drive ends");
        TroubleCodes y = Due.plains(1);
        y.check(0, 0, 2, 1, 90, 0, false);
        Due.plain(y, 0);
        Due.drive(y, "BB.");
        due.is("end()", Due.drive(y, "GGB"), 1);
        due.is("codes", y.about(0, 0) * 10 + y.about(1, 0), 30);
        due.is("foretells(0, 2), it was set", y.foretells(0, 2), 1);
        due.is("foretells(1, 2), it was pending", y.foretells(1, 2), 1);
        due.edge(19, "PENDING or SET as the DRIVE began", "cleared since the last drive");
        TroubleCodes z = Due.plains(2);
        Due.drive(z, "B");
        z.clear();
        Due.drive(z, ".B");
        due.is("foretells(0, 1)", z.foretells(0, 1), 0);
    }

    private void foretellsOwn() {
        due.edge(19, "(perhaps its own)", "pending, then set");
        TroubleCodes x = new TroubleCodes();
        x.check(0, 0, 2, 1, 90, 0, false);
        Due.drives(x, 2, "B");
        due.is("foretells(0, 0)", x.foretells(0, 0), 1);
        due.edge(19, "(perhaps its own)", "none, then set; healed, then set");
        TroubleCodes y = Due.plains(1);
        Due.drive(y, "B");
        Due.drive(y, "G");
        Due.drive(y, "B");
        due.is("foretells(0, 0)", y.foretells(0, 0), 0);
    }

    private void foretellsEnded() {
        due.edge(19, "of all DRIVES that ended", "a drive that goes is not counted");
        TroubleCodes x = Due.plains(2);
        Due.drive(x, "B");
        x.begin();
        x.ran(1, true);
        due.is("foretells(0, 1)", x.foretells(0, 1), 0);
        due.is("sets(1)", x.sets(1), 0);
        x.end();
        due.is("foretells(0, 1)", x.foretells(0, 1), 1);
        due.edge(19, "of all DRIVES that ended", "those ahead of a clearing too");
        x.clear();
        due.is("foretells(0, 1)", x.foretells(0, 1), 1);
        due.edge(19, "of all DRIVES that ended", "each of many");
        for (int i = 0; i < 40; i++) {
            Due.drive(x, "B");
            Due.drive(x, ".B");
            due.is("foretells(0, 1)", x.foretells(0, 1), i + 2);
            x.clear();
        }
    }

    private void foretellsBecameSet() {
        due.edge(19, "became SET (that was not)", "set already");
        TroubleCodes x = Due.plains(2);
        Due.drive(x, "BB");
        Due.drives(x, 3, "BB");
        for (int c = 0; c < 4; c++) due.is("foretells(" + c / 2 + ", " + c % 2 + ")", x.foretells(c / 2, c % 2), 0);
        due.edge(19, "became SET (that was not)", "held back: it did not");
        TroubleCodes y = Due.plains(1);
        Due.following(y, 0);
        Due.drive(y, "B");
        Due.drives(y, 3, ".B");
        due.is("foretells(0, 1)", y.foretells(0, 1), 0);
        due.edge(19, "became SET (that was not)", "held back no more, set as the drive began");
        Due.drive(y, "GB");
        due.is("foretells(0, 1)", y.foretells(0, 1), 1);
        due.is("foretells(1, 1)", y.foretells(1, 1), 1);
        due.is("foretells(1, 0)", y.foretells(1, 0), 0);
    }

    private void foretellsAll() {
        due.edge(19, FORETELLS_HOW, "16 by 16");
        TroubleCodes x = new TroubleCodes();
        for (int i = 0; i < 16; i++) x.check(0, 0, 2, 1, 90, 0, false);
        Due.drives(x, 2, "BBBBBBBBBBBBBBBB");
        for (int c = 0; c < 256; c++) due.is("foretells(" + c / 16 + ", " + c % 16 + ")", x.foretells(c / 16, c % 16), 1);
    }

    private void setsRefused() {
        due.edge(20, SETS, "a check that is not there");
        TroubleCodes x = Due.plains(2);
        for (int c : new int[] {-1, 2, 15, 16, LEAST, MOST}) due.is("sets(" + c + ")", x.sets(c), -2);
        due.is("sets(0), no checks", new TroubleCodes().sets(0), -2);
        due.edge(20, SETS, "16 checks: the last, one beyond");
        due.is("sets(15)", Due.plains(16).sets(15), 0);
        due.is("sets(16)", Due.plains(16).sets(16), -2);
    }

    private void setsCounted() {
        due.edge(20, SETS, "none, pending, held back: 0");
        TroubleCodes x = new TroubleCodes();
        x.check(0, 0, 2, 1, 90, 0, false);
        Due.following(x, 0);
        due.is("none", x.sets(0), 0);
        Due.drive(x, "BB");
        due.is("pending", x.sets(0), 0);
        due.is("held back", x.sets(1), 0);
        due.edge(20, SETS, "set, set still, set again");
        Due.drive(x, "B");
        due.is("set", x.sets(0), 1);
        Due.drive(x, "B");
        due.is("set still", x.sets(0), 1);
        Due.drive(x, "G");
        due.is("healed", x.sets(0), 1);
        Due.drive(x, "B");
        due.is("set again", x.sets(0), 2);
        due.edge(20, SETS, "without room for facts, and as cleared");
        TroubleCodes y = Due.plains(2);
        y.room(1);
        Due.drive(y, "BB");
        y.clear();
        due.is("sets(0)", y.sets(0), 1);
        due.is("sets(1)", y.sets(1), 1);
        due.edge(20, SETS, "each of many");
        for (int i = 2; i < 60; i++) {
            Due.drive(y, "B");
            due.is("sets(0)", y.sets(0), i);
            Due.drive(y, "G");
        }
    }

    private void countRefused() {
        TroubleCodes x = Due.plains(9);
        due.edge(21, COUNT, "too small");
        for (int what : new int[] {-1, LEAST}) due.is("count(" + what + ")", x.count(what), -2);
        due.edge(21, COUNT, "too large");
        for (int what : new int[] {8, MOST}) due.is("count(" + what + ")", x.count(what), -2);
    }

    private void countsLeast() {
        due.edge(21, COUNT, "the least of each");
        TroubleCodes x = new TroubleCodes();
        for (int what = 0; what < 8; what++) due.is("count(" + what + ")", x.count(what), 0);
        due.edge(21, COUNT, "a drive that goes is not ended");
        x.begin();
        due.is("count(1)", x.count(1), 0);
        due.is("count(7)", x.count(7), 1);
        x.end();
        due.is("count(1)", x.count(1), 1);
        due.is("count(7)", x.count(7), 0);
    }

    private void countsMost() {
        due.edge(21, COUNT, "the most of each");
        TroubleCodes x = new TroubleCodes();
        for (int i = 0; i < 16; i++) x.check(0, 0, 2, 1, 90, 0, false);
        for (int i = 0; i < 10; i++) x.cause(1 << 15, 1);
        due.is("checks", x.count(0), 16);
        due.is("causes", x.count(6), 10);
        Due.drive(x, "BBBBBBBBBBBBBBBB");
        due.is("pending", x.count(2), 16);
        Due.drive(x, "BBBBBBBBBBBBBBBB");
        due.is("pending", x.count(2), 0);
        due.is("set", x.count(3), 16);
        due.is("frozen", x.count(5), 8);
        Due.drive(x, "GGGGGGGGGGGGGGGG");
        due.is("set", x.count(3), 0);
        due.is("healed", x.count(4), 16);
        due.edge(21, COUNT, "drives ended: as many as 512 calls hold");
        TroubleCodes y = new TroubleCodes();
        Due.drives(y, 255, "");
        due.is("count(1)", y.count(1), 255);
    }

    /** The digest of these numbers, by whole numbers without end of which the last 64 bits count. */
    private static long digestOf(List<Integer> numbers) {
        BigInteger h = BigInteger.valueOf(211);
        for (int v : numbers) h = h.multiply(BigInteger.valueOf(31)).add(BigInteger.valueOf(v));
        return h.longValue();
    }

    private static void add(List<Integer> numbers, int... more) {
        for (int v : more) numbers.add(v);
    }

    private void digestOfNew() {
        due.edge(22, DIGEST, "a new object: eight counts and four facts");
        List<Integer> numbers = new ArrayList<>();
        add(numbers, 0, 0, 0, 0, 0, 0, 0, 0);
        add(numbers, 0, 0, 0, 0);
        due.is("digest()", new TroubleCodes().digest(), digestOf(numbers));
    }

    private void digestOfAFullOne() {
        due.edge(22, DIGEST, "16 checks, ten causes: it wraps around again and again");
        TroubleCodes x = new TroubleCodes();
        for (int i = 0; i < 16; i++) x.check(0, 0, 9, 9, 90, 9, true);
        for (int i = 0; i < 10; i++) x.cause(0xffff, 1000);
        for (int i = 0; i < 4; i++) x.fact(i, -1000);
        List<Integer> numbers = new ArrayList<>();
        add(numbers, 16, 0, 0, 0, 0, 0, 10, 0);
        for (int i = 0; i < 16; i++) add(numbers, 0, 0, 0, 0, 0, 0, 0, 0, -1, -2000, -2000, -2000, -2000, 0);
        add(numbers, -1000, -1000, -1000, -1000);
        for (int i = 0; i < 10; i++) add(numbers, 0xffff, 1000);
        due.is("digest()", x.digest(), digestOf(numbers));
    }

    private void digestOfEach() {
        due.edge(22, DIGEST, "each number another");
        TroubleCodes x = new TroubleCodes();
        x.check(1, 0, 1, 1, 90, 0, false);
        x.check(2, 0, 1, 1, 90, 0, false);
        x.check(0, 0, 1, 1, 90, 0, false);
        for (int i = 0; i < 4; i++) x.fact(i, 10 + i);
        Due.drive(x, "..B");
        Due.drive(x, "BBG");
        Due.drive(x, "B..");
        for (int i = 0; i < 4; i++) x.fact(i, 20 + i);
        x.cause(5, 7);
        x.cause(2, 3);
        x.begin();
        List<Integer> numbers = new ArrayList<>();
        add(numbers, 3, 3, 1, 1, 1, 2, 2, 1);
        add(numbers, 2, 2, 0, 0, 0, 1, 1, 1, 1, 10, 11, 12, 13, 1);
        add(numbers, 1, 1, 0, 0, 1, 0, 1, 2, -1, -2000, -2000, -2000, -2000, 0);
        add(numbers, 3, 0, 1, 2, 0, 1, 1, 0, 0, 10, 11, 12, 13, 1);
        add(numbers, 20, 21, 22, 23);
        add(numbers, 5, 7, 2, 3);
        due.is("digest()", x.digest(), digestOf(numbers));
    }

    private void digestUnchanged() {
        due.edge(22, "Refused, changing nothing", "every call that asks, as told and not");
        TroubleCodes x = Due.plains(2);
        Due.permanent(x, 0);
        x.cause(1, 1);
        x.cause(1, 1);
        Due.drive(x, "BGB");
        x.begin();
        x.ran(1, true);
        long d = x.digest();
        for (int n : new int[] {0, 1, 2, 3, 7, 8, 16, -1, LEAST, MOST}) {
            for (int i : new int[] {0, 3, 4, 7, 8, -1, LEAST, MOST}) {
                x.about(n, i);
                x.frozen(n, i);
                x.foretells(n, i);
            }
            x.frozenAt(n);
            x.explains(n);
            x.leastAt(n);
            x.sets(n);
            x.count(n);
        }
        x.lamp();
        x.least();
        x.plan();
        x.test();
        due.is("digest()", x.digest(), d);
        due.is("end(), what was told is kept", x.end(), 1);
    }

    private void calls512() {
        due.edge(22, "An object is used for at most 512 calls after it has been made", "the 512th call");
        TroubleCodes x = Due.plains(1);
        int calls = 1;
        while (calls < 508) {
            x.begin();
            x.ran(0, true);
            x.end();
            calls += 3;
        }
        due.is("calls", calls, 508);
        due.is("call 509: about(0, 1)", x.about(0, 1), 169);
        due.is("call 510: count(1)", x.count(1), 169);
        due.is("call 511: begin()", x.begin(), 169);
        List<Integer> numbers = new ArrayList<>();
        add(numbers, 1, 169, 0, 1, 0, 1, 0, 1);
        add(numbers, 2, 169, 0, 0, 0, 1, 1, 0, 0, 0, 0, 0, 0, 1);
        add(numbers, 0, 0, 0, 0);
        due.is("call 512: digest()", x.digest(), digestOf(numbers));
    }
}
