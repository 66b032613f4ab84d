/** Boundary cases of promises 1, 2, 8, 11 and 12: a new object, checks, what is told about them, the lamp, clearing. */
final class EdgesOfChecks {
    private static final int LEAST = Integer.MIN_VALUE, MOST = Integer.MAX_VALUE;
    private static final String REFUSED =
        "Refused, changing nothing, the first of: BAD -2 a number is not as told; NO -3 as told; FULL -4.";
    private static final String CHECK_REFUSED = "BAD; NO: a DRIVE goes; FULL: 16.";
    private static final String CLEARED = "CLEARED by a tool: all CODES but PERMANENT ones become NONE, with counts, ages 0,"
        + " what is FROZEN for them gone; of PERMANENT ones only counts and ages are 0.";

    private final Due due;

    EdgesOfChecks(Due due) {
        this.due = due;
    }

    void run() {
        newObject();
        newObjectByAnother();
        checkNumbers();
        sorts();
        follows();
        followsLookedAt();
        counts();
        checkInADrive();
        checkFull();
        checkFirstRefusal();
        checkRefusedChangesNothing();
        aboutEach();
        aboutHeldBack();
        aboutFrozen();
        aboutRan();
        aboutRefused();
        lampCodes();
        lampChecks();
        clearCounted();
        clearCodes();
        clearCounts();
        clearFrozen();
        clearPermanent();
        clearInADrive();
    }

    private void newObject() {
        String sentence = "No CHECKS, no CAUSES; no DRIVE goes; FACTS 0.";
        TroubleCodes x = new TroubleCodes();
        due.edge(1, sentence, "no checks");
        due.is("count(0)", x.count(0), 0);
        due.is("about(0, 7)", x.about(0, 7), -2);
        due.is("cause(1, 1)", x.cause(1, 1), -2);
        due.edge(1, sentence, "no causes");
        due.is("count(6)", x.count(6), 0);
        due.is("explains(1)", x.explains(1), -2);
        due.edge(1, sentence, "no drive goes");
        due.is("count(7)", x.count(7), 0);
        due.is("end()", x.end(), -3);
        due.edge(1, sentence, "facts 0");
        for (int i = 0; i < 4; i++) due.is("fact(" + i + ", 1000)", x.fact(i, 1000), 0);
    }

    private void newObjectByAnother() {
        due.edge(1, "A new object", "nothing of another object is in it");
        TroubleCodes x = new TroubleCodes();
        long empty = x.digest();
        Due.plain(x, 0);
        x.cause(1, 1);
        x.fact(0, 9);
        x.room(1);
        Due.drive(x, "B");
        x.begin();
        TroubleCodes y = new TroubleCodes();
        due.is("digest()", y.digest(), empty);
        due.is("room(8)", y.room(8), 8);
        due.is("begin()", y.begin(), 0);
        due.is("the other's digest is another", x.digest() == empty ? 1 : 0, 0);
    }

    private void checkNumbers() {
        due.edge(2, "15, as they come", "the numbers 0 to 15");
        TroubleCodes x = new TroubleCodes();
        for (int n = 0; n < 16; n++) due.is("check", Due.plain(x, 0), n);
        due.edge(2, "A CHECK (follows: looked at by SORT 2): its number.", "one that is refused takes none");
        TroubleCodes y = Due.plains(1);
        y.check(3, 0, 1, 1, 1, 0, false);
        due.is("check", Due.plain(y, 0), 1);
    }

    /** The answer to a check with these numbers, on an object with one check. */
    private static int check(int sort, int follows, int bad, int good, int age, int weight) {
        return Due.plains(1).check(sort, follows, bad, good, age, weight, true);
    }

    private void sorts() {
        String sentence = "have a SORT: 0 plain; 1 PERMANENT; 2 FOLLOWING one other CHECK (made ahead of it)";
        due.edge(2, sentence, "too small");
        due.is("sort -1", check(-1, 0, 1, 1, 1, 0), -2);
        due.is("sort least", check(LEAST, 0, 1, 1, 1, 0), -2);
        due.edge(2, sentence, "too large");
        due.is("sort 3", check(3, 0, 1, 1, 1, 0), -2);
        due.is("sort most", check(MOST, 0, 1, 1, 1, 0), -2);
        due.edge(2, sentence, "each of them");
        for (int sort = 0; sort < 3; sort++) due.is("sort " + sort, check(sort, 0, 1, 1, 1, 0), 1);
    }

    private void follows() {
        String sentence = "2 FOLLOWING one other CHECK (made ahead of it)";
        due.edge(2, sentence, "too small");
        due.is("follows -1", check(2, -1, 1, 1, 1, 0), -2);
        due.is("follows least", check(2, LEAST, 1, 1, 1, 0), -2);
        due.edge(2, sentence, "itself");
        due.is("follows 1", check(2, 1, 1, 1, 1, 0), -2);
        due.is("follows 0 as the first", new TroubleCodes().check(2, 0, 1, 1, 1, 0, false), -2);
        due.edge(2, sentence, "one that is not made yet");
        due.is("follows 2", check(2, 2, 1, 1, 1, 0), -2);
        due.is("follows 15", check(2, 15, 1, 1, 1, 0), -2);
        due.is("follows 16", check(2, 16, 1, 1, 1, 0), -2);
        due.is("follows most", check(2, MOST, 1, 1, 1, 0), -2);
        due.edge(2, sentence, "the first and the last of those ahead");
        TroubleCodes x = Due.plains(14);
        due.is("follows 0", x.check(2, 0, 1, 1, 1, 0, false), 14);
        due.is("follows 14", x.check(2, 14, 1, 1, 1, 0, false), 15);
        due.edge(2, sentence, "one that follows too, a permanent one");
        TroubleCodes y = Due.plains(1);
        Due.permanent(y, 0);
        due.is("follows the permanent", Due.following(y, 1), 2);
        due.is("follows the following", Due.following(y, 2), 3);
    }

    private void followsLookedAt() {
        due.edge(2, "(follows: looked at by SORT 2)", "any number by sorts 0 and 1");
        for (int follows : new int[] {-1, 1, 2, 16, LEAST, MOST}) {
            due.is("sort 0, follows " + follows, check(0, follows, 1, 1, 1, 0), 1);
            due.is("sort 1, follows " + follows, check(1, follows, 1, 1, 1, 0), 1);
        }
        due.is("sort 0 as the first", new TroubleCodes().check(0, 0, 1, 1, 1, 0, false), 0);
    }

    private void counts() {
        String sentence = "and counts: bad (1 .. 9), good (1 .. 9), age (1 .. 90); a WEIGHT (0 .. 9)";
        due.edge(2, sentence, "bad too small");
        for (int bad : new int[] {0, -1, LEAST}) due.is("bad " + bad, check(0, 0, bad, 1, 1, 0), -2);
        due.edge(2, sentence, "bad too large");
        for (int bad : new int[] {10, MOST}) due.is("bad " + bad, check(0, 0, bad, 1, 1, 0), -2);
        due.edge(2, sentence, "good too small");
        for (int good : new int[] {0, -1, LEAST}) due.is("good " + good, check(0, 0, 1, good, 1, 0), -2);
        due.edge(2, sentence, "good too large");
        for (int good : new int[] {10, MOST}) due.is("good " + good, check(0, 0, 1, good, 1, 0), -2);
        due.edge(2, sentence, "age too small");
        for (int age : new int[] {0, -1, LEAST}) due.is("age " + age, check(0, 0, 1, 1, age, 0), -2);
        due.edge(2, sentence, "age too large");
        for (int age : new int[] {91, 180, MOST}) due.is("age " + age, check(1, 0, 1, 1, age, 0), -2);
        due.edge(2, sentence, "weight too small");
        for (int weight : new int[] {-1, LEAST}) due.is("weight " + weight, check(0, 0, 1, 1, 1, weight), -2);
        due.edge(2, sentence, "weight too large");
        for (int weight : new int[] {10, MOST}) due.is("weight " + weight, check(0, 0, 1, 1, 1, weight), -2);
        due.edge(2, sentence, "the least of each");
        for (int sort = 0; sort < 3; sort++) due.is("sort " + sort, check(sort, 0, 1, 1, 1, 0), 1);
        due.edge(2, sentence, "the most of each");
        for (int sort = 0; sort < 3; sort++) due.is("sort " + sort, check(sort, 0, 9, 9, 90, 9), 1);
    }

    private void checkInADrive() {
        due.edge(2, CHECK_REFUSED, "a drive goes");
        TroubleCodes x = new TroubleCodes();
        x.begin();
        due.is("in the first drive", Due.plain(x, 0), -3);
        x.end();
        due.is("after it", Due.plain(x, 0), 0);
        x.begin();
        due.is("in the second drive", Due.plain(x, 0), -3);
        due.is("count(0)", x.count(0), 1);
    }

    private void checkFull() {
        due.edge(2, CHECK_REFUSED, "full");
        TroubleCodes x = Due.plains(15);
        due.is("the 16th", Due.plain(x, 0), 15);
        due.is("the 17th", Due.plain(x, 0), -4);
        due.is("the 17th, permanent", Due.permanent(x, 0), -4);
        due.is("the 17th, following the last", Due.following(x, 15), -4);
        due.is("count(0)", x.count(0), 16);
    }

    private void checkFirstRefusal() {
        TroubleCodes x = Due.plains(16);
        due.edge(2, REFUSED, "check: bad ahead of full");
        due.is("bad 0", x.check(0, 0, 0, 1, 1, 0, false), -2);
        due.is("follows 16", x.check(2, 16, 1, 1, 1, 0, false), -2);
        x.begin();
        due.edge(2, REFUSED, "check: no ahead of full");
        due.is("no number wrong", x.check(0, 0, 1, 1, 1, 0, false), -3);
        due.edge(2, REFUSED, "check: bad ahead of no, by each number");
        due.is("sort 3", x.check(3, 0, 1, 1, 1, 0, false), -2);
        due.is("follows 16", x.check(2, 16, 1, 1, 1, 0, false), -2);
        due.is("bad 10", x.check(0, 0, 10, 1, 1, 0, false), -2);
        due.is("good 10", x.check(0, 0, 1, 10, 1, 0, false), -2);
        due.is("age 91", x.check(0, 0, 1, 1, 91, 0, false), -2);
        due.is("weight 10", x.check(0, 0, 1, 1, 1, 10, false), -2);
    }

    private void checkRefusedChangesNothing() {
        due.edge(2, REFUSED, "check: nothing is changed");
        TroubleCodes x = Due.plains(1);
        long one = x.digest();
        due.refused("bad 0", x, one, x.check(0, 0, 0, 1, 1, 0, true), -2);
        due.is("a cause of it", x.cause(2, 1), -2);
        x.begin();
        x.ran(0, true);
        long driving = x.digest();
        due.refused("a drive goes", x, driving, Due.plain(x, 0), -3);
        due.is("what was told is kept", x.end(), 1);
        TroubleCodes y = Due.plains(16);
        Due.drive(y, "BBBBBBBBBBBBBBBB");
        long full = y.digest();
        due.refused("full", y, full, y.check(1, 0, 9, 9, 90, 9, true), -4);
        due.is("lamp()", y.lamp(), 0);
    }

    private void aboutEach() {
        due.edge(8, "A CHECK's CODE is: NONE (0), PENDING (1), SET (2), HEALED (3).", "each of them");
        TroubleCodes x = new TroubleCodes();
        x.check(0, 0, 2, 1, 9, 0, false);
        String[] drives = {"", "B", "B", "G"};
        for (int code = 0; code < 4; code++) {
            Due.drive(x, drives[code]);
            due.is("about(0, 0)", x.about(0, 0), code);
        }
        String sentence = "Of a CHECK: 0 its CODE, 1 bad count, 2 good count, 3 age, 4 whether it is HELD BACK now,"
            + " 5 whether facts are FROZEN for it, 6 whether it ran in a DRIVE that ended since CLEARED (or ever), 7 its SORT.";
        due.edge(8, sentence, "a new check");
        TroubleCodes y = Due.plains(1);
        Due.permanent(y, 0);
        Due.following(y, 0);
        for (int c = 0; c < 3; c++) {
            for (int what = 0; what < 7; what++) due.is("about(" + c + ", " + what + ")", y.about(c, what), 0);
            due.is("about(" + c + ", 7)", y.about(c, 7), c);
        }
        due.edge(8, sentence, "the last check");
        TroubleCodes z = Due.plains(14);
        z.check(0, 0, 2, 1, 9, 0, false);
        Due.following(z, 14);
        Due.drive(z, "..............BB");
        int[] want = {1, 1, 0, 0, 1, 0, 1, 2};
        for (int what = 0; what < 8; what++) due.is("about(15, " + what + ")", z.about(15, what), want[what]);
    }

    private void aboutHeldBack() {
        String sentence = "HELD BACK is a FOLLOWING CHECK, as long as the CODE of the one it follows is PENDING or SET";
        due.edge(8, sentence, "by each code of the one it follows");
        TroubleCodes x = new TroubleCodes();
        x.check(0, 0, 2, 1, 2, 0, false);
        Due.following(x, 0);
        due.is("none", x.about(1, 4), 0);
        Due.drive(x, "B");
        due.is("pending", x.about(1, 4), 1);
        Due.drive(x, "B");
        due.is("set", x.about(1, 4), 1);
        Due.drive(x, "G");
        due.is("healed", x.about(1, 4), 0);
        Due.drive(x, "");
        due.is("none again", x.about(1, 4), 0);
        due.edge(8, sentence, "plain and permanent ones never");
        TroubleCodes y = Due.plains(2);
        Due.permanent(y, 0);
        Due.drive(y, "BBB");
        for (int c = 0; c < 3; c++) due.is("about(" + c + ", 4)", y.about(c, 4), 0);
        due.edge(8, "4 whether it is HELD BACK now", "a drive that goes has told nothing yet");
        TroubleCodes z = Due.plains(1);
        Due.following(z, 0);
        z.begin();
        z.ran(0, true);
        due.is("about(1, 4)", z.about(1, 4), 0);
        z.end();
        z.begin();
        z.ran(0, false);
        due.is("about(1, 4), set still", z.about(1, 4), 1);
        due.edge(8, "4 whether it is HELD BACK now", "one that is set itself");
        TroubleCodes w = Due.plains(1);
        Due.following(w, 0);
        Due.drive(w, ".B");
        due.is("about(1, 4)", w.about(1, 4), 0);
        Due.drive(w, "B.");
        due.is("about(1, 4)", w.about(1, 4), 1);
        due.is("about(1, 0)", w.about(1, 0), 2);
    }

    private void aboutFrozen() {
        due.edge(8, "5 whether facts are FROZEN for it", "set without room");
        TroubleCodes x = Due.plains(2);
        x.room(1);
        Due.drive(x, "BB");
        due.is("about(0, 5)", x.about(0, 5), 0);
        due.is("about(1, 5)", x.about(1, 5), 1);
        due.edge(8, "5 whether facts are FROZEN for it", "healed");
        Due.drive(x, ".G");
        due.is("about(1, 5)", x.about(1, 5), 1);
    }

    private void aboutRan() {
        String sentence = "6 whether it ran in a DRIVE that ended since CLEARED (or ever)";
        due.edge(8, sentence, "never cleared");
        TroubleCodes x = Due.plains(2);
        Due.drive(x, "G");
        Due.drives(x, 3, "");
        due.is("about(0, 6)", x.about(0, 6), 1);
        due.is("about(1, 6)", x.about(1, 6), 0);
        due.edge(8, sentence, "a drive that goes");
        x.begin();
        x.ran(1, true);
        due.is("about(1, 6)", x.about(1, 6), 0);
        x.end();
        due.is("about(1, 6), ended", x.about(1, 6), 1);
        due.edge(8, sentence, "cleared, of each sort");
        TroubleCodes y = Due.plains(1);
        Due.permanent(y, 0);
        Due.following(y, 0);
        Due.drive(y, "BBB");
        y.clear();
        for (int c = 0; c < 3; c++) due.is("about(" + c + ", 6)", y.about(c, 6), 0);
        due.edge(8, sentence, "not run since");
        Due.drive(y, ".G");
        due.is("about(0, 6)", y.about(0, 6), 0);
        due.is("about(1, 6)", y.about(1, 6), 1);
    }

    private void aboutRefused() {
        String sentence = "7 its SORT. BAD.";
        TroubleCodes x = Due.plains(2);
        due.edge(8, sentence, "a check that is not there");
        for (int c : new int[] {-1, 2, 15, 16, LEAST, MOST}) {
            for (int what = 0; what < 8; what++) due.is("about(" + c + ", " + what + ")", x.about(c, what), -2);
        }
        due.edge(8, sentence, "what too small");
        for (int what : new int[] {-1, LEAST}) due.is("about(1, " + what + ")", x.about(1, what), -2);
        due.edge(8, sentence, "what too large");
        for (int what : new int[] {8, MOST}) due.is("about(1, " + what + ")", x.about(1, what), -2);
        due.edge(8, sentence, "a check beyond the 16th");
        due.is("about(16, 0)", Due.plains(16).about(16, 0), -2);
    }

    private void lampCodes() {
        due.edge(11, "A LAMP is on if a CHECK with a LAMP is SET.", "each code");
        TroubleCodes x = new TroubleCodes();
        x.check(0, 0, 2, 1, 9, 0, true);
        due.is("none", x.lamp(), 0);
        Due.drive(x, "B");
        due.is("pending", x.lamp(), 0);
        x.begin();
        x.ran(0, true);
        due.is("pending, a drive goes", x.lamp(), 0);
        x.end();
        due.is("set", x.lamp(), 1);
        Due.drive(x, "G");
        due.is("healed", x.lamp(), 0);
        due.edge(11, "Whether the LAMP is on: 1, 0.", "no checks");
        due.is("new", new TroubleCodes().lamp(), 0);
    }

    private void lampChecks() {
        due.edge(11, "a LAMP or none", "set without a lamp");
        TroubleCodes x = Due.plains(15);
        x.check(0, 0, 1, 1, 9, 0, true);
        Due.drive(x, "BBBBBBBBBBBBBBB.");
        due.is("lamp()", x.lamp(), 0);
        due.edge(11, "A LAMP is on if a CHECK with a LAMP is SET.", "the last check");
        Due.drive(x, "...............B");
        due.is("lamp()", x.lamp(), 1);
        due.edge(11, "A LAMP is on if a CHECK with a LAMP is SET.", "the first check, two of them");
        TroubleCodes y = new TroubleCodes();
        for (int i = 0; i < 3; i++) y.check(0, 0, 1, 1, 9, 0, i != 1);
        Due.drive(y, "B.B");
        Due.drive(y, "..G");
        due.is("lamp(), one healed", y.lamp(), 1);
        Due.drive(y, "GB.");
        due.is("lamp(), both healed", y.lamp(), 0);
    }

    private void clearCounted() {
        String sentence = "CLEARED: how many CODES became NONE.";
        due.edge(12, sentence, "no checks");
        due.is("clear()", new TroubleCodes().clear(), 0);
        due.edge(12, sentence, "none before");
        TroubleCodes x = Due.plains(2);
        Due.drive(x, "G.");
        due.is("clear()", x.clear(), 0);
        due.edge(12, sentence, "pending, set, healed; permanent ones not");
        TroubleCodes y = Due.plains(3);
        y.check(0, 0, 2, 1, 9, 0, false);
        Due.permanent(y, 0);
        Due.drive(y, "BB.BB");
        Due.drive(y, "G....");
        due.is("clear()", y.clear(), 3);
        due.is("clear() again", y.clear(), 0);
        due.edge(12, sentence, "all 16");
        TroubleCodes z = Due.plains(16);
        Due.drive(z, "BBBBBBBBBBBBBBBB");
        due.is("clear()", z.clear(), 16);
        due.edge(12, sentence, "permanent ones alone");
        TroubleCodes w = new TroubleCodes();
        Due.permanent(w, 0);
        Due.drive(w, "B");
        due.is("clear()", w.clear(), 0);
    }

    /** A plain, a permanent and a following check in each code: 0 to 2 none, 3 to 5 pending, 6 to 8 set, 9 to 11 healed. */
    private static TroubleCodes eachCode() {
        TroubleCodes x = new TroubleCodes();
        for (int code = 0; code < 4; code++) {
            for (int sort = 0; sort < 3; sort++) x.check(sort, 0, code == 1 ? 2 : 1, 1, 9, 0, false);
        }
        x.fact(0, 5);
        Due.drive(x, "GGGBBBBBBBBB");
        Due.drive(x, ".........GGG");
        return x;
    }

    private void clearCodes() {
        due.edge(12, CLEARED, "plain and following codes");
        TroubleCodes x = eachCode();
        for (int c = 0; c < 12; c++) due.is("code of " + c, x.about(c, 0), c / 3);
        due.is("clear()", x.clear(), 6);
        for (int c = 0; c < 12; c++) due.is("code of " + c, x.about(c, 0), c % 3 == 1 ? c / 3 : 0);
    }

    private void clearCounts() {
        due.edge(12, CLEARED, "counts and ages, of each sort and code");
        TroubleCodes x = eachCode();
        int[] counts = {x.about(3, 1), x.about(0, 2), x.about(9, 3), x.about(10, 3)};
        for (int count : counts) due.is("a count ahead of it", count, 1);
        x.clear();
        for (int c = 0; c < 12; c++) {
            for (int what = 1; what < 4; what++) due.is("about(" + c + ", " + what + ")", x.about(c, what), 0);
        }
        due.edge(12, CLEARED, "the counts of one that had no code");
        TroubleCodes y = new TroubleCodes();
        y.check(0, 0, 1, 1, 1, 0, false);
        Due.drive(y, "B");
        Due.drive(y, "G");
        due.is("gone by age", Due.state(y, 0), Due.state(0, 0, 1, 1));
        y.clear();
        due.is("cleared", Due.state(y, 0), 0);
    }

    private void clearFrozen() {
        due.edge(12, CLEARED, "what is frozen for plain and following ones");
        TroubleCodes x = eachCode();
        due.is("frozen", Due.frozenBits(x), 0b111111000000);
        x.clear();
        due.is("frozen", Due.frozenBits(x), 0b010010000000);
        due.is("count(5)", x.count(5), 2);
        due.is("frozenAt(6)", x.frozenAt(6), -1);
        due.is("frozen(6, 0)", x.frozen(6, 0), -2000);
    }

    private void clearPermanent() {
        due.edge(12, CLEARED, "of permanent ones nothing but counts and ages");
        TroubleCodes x = eachCode();
        x.clear();
        due.is("frozenAt(7)", x.frozenAt(7), 0);
        due.is("frozen(10, 0)", x.frozen(10, 0), 5);
        due.edge(12, CLEARED, "a permanent one that is pending counts bad from 0");
        due.is("end()", Due.drive(x, "....B"), 0);
        due.is("state", Due.state(x, 4), Due.state(1, 1, 0, 0));
        due.is("end()", Due.drive(x, "....B"), 1);
        due.edge(12, CLEARED, "a permanent one that is set counts good from 0");
        TroubleCodes y = new TroubleCodes();
        y.check(1, 0, 1, 2, 9, 0, false);
        Due.drive(y, "B");
        Due.drive(y, "G");
        y.clear();
        Due.drive(y, "G");
        due.is("state", Due.state(y, 0), Due.state(2, 0, 1, 0));
        due.edge(12, CLEARED, "a permanent one that is healed ages from 0");
        TroubleCodes z = new TroubleCodes();
        z.check(1, 0, 1, 1, 1, 0, false);
        Due.drive(z, "B");
        Due.drive(z, "G");
        z.clear();
        Due.drive(z, "");
        due.is("state", Due.state(z, 0), Due.state(3, 0, 0, 1));
        Due.drive(z, "");
        due.is("state", Due.state(z, 0), Due.state(0, 0, 0, 2));
    }

    private void clearInADrive() {
        due.edge(12, "NO: a DRIVE goes.", "in a drive, changing nothing");
        TroubleCodes x = eachCode();
        x.begin();
        x.ran(0, true);
        long d = x.digest();
        due.refused("clear()", x, d, x.clear(), -3);
        due.is("what was told is kept", x.end(), 1);
        due.is("clear() after it", x.clear(), 7);
        due.edge(12, "NO: a DRIVE goes.", "without checks");
        TroubleCodes y = new TroubleCodes();
        y.begin();
        due.is("clear()", y.clear(), -3);
    }
}
