/** Promises 19 to 22: foretells, sets, count, digest. */
public final class CountsTest {
    private static final Due due = new Due();

    public static void main(String[] args) {
        foretells();
        foretellsItself();
        foretellsByCodeAtBegin();
        foretellsCountsDrives();
        foretellsStaysAsCleared();
        foretellsFirstAndLast();
        sets();
        counts();
        digestOfAll();
        digestIsOfWhatItSays();
        due.finish();
    }

    private static void foretells() {
        TroubleCodes x = new TroubleCodes();
        x.check(0, 0, 2, 1, 9, 0, false);
        Due.plain(x, 0);
        Due.plain(x, 0);
        Due.drive(x, "B.B");
        due.is("set with none so", x.foretells(0, 2), 0);
        due.is("sets", x.sets(2), 1);
        Due.drive(x, ".B.");
        due.is("pending foretold it", x.foretells(0, 1), 1);
        due.is("set foretold it", x.foretells(2, 1), 1);
        due.is("itself was none", x.foretells(1, 1), 0);
        due.is("not the other way", x.foretells(1, 0), 0);
        due.is("not the other way", x.foretells(1, 2), 0);
        Due.drive(x, ".B.");
        due.is("set already: not again", x.foretells(2, 1), 1);
    }

    private static void foretellsItself() {
        TroubleCodes x = new TroubleCodes();
        x.check(0, 0, 2, 1, 9, 0, false);
        Due.drive(x, "B");
        due.is("pending only", x.foretells(0, 0), 0);
        Due.drive(x, "B");
        due.is("pending as the drive began", x.foretells(0, 0), 1);
        Due.drive(x, "G");
        Due.drive(x, "B");
        due.is("healed as the drive began", x.foretells(0, 0), 1);
        due.is("sets", x.sets(0), 2);
    }

    private static void foretellsByCodeAtBegin() {
        TroubleCodes x = new TroubleCodes();
        Due.plain(x, 0);
        x.check(0, 0, 2, 1, 9, 0, false);
        Due.drive(x, "B");
        Due.drive(x, ".B");
        Due.drive(x, "GB");
        due.is("set as it began, healed as it ended", x.foretells(0, 1), 1);
        Due.drive(x, "BG");
        due.is("set as the other was set", x.foretells(1, 0), 1);
        Due.drive(x, "GB");
        due.is("set as it began again", x.foretells(0, 1), 2);
        Due.drive(x, ".G");
        due.is("both set", Due.drive(x, "BB"), 2);
        due.is("healed as it began, set as it ended", x.foretells(0, 1), 2);
        due.is("healed as it began, the other way", x.foretells(1, 0), 1);
    }

    private static void foretellsCountsDrives() {
        TroubleCodes x = new TroubleCodes();
        Due.plain(x, 0);
        Due.plain(x, 0);
        Due.drive(x, "B");
        for (int i = 1; i <= 5; i++) {
            Due.drive(x, ".B");
            due.is("foretells", x.foretells(0, 1), i);
            Due.drive(x, ".G");
        }
        x.begin();
        x.ran(1, true);
        due.is("a drive that goes is not counted", x.foretells(0, 1), 5);
    }

    private static void foretellsStaysAsCleared() {
        TroubleCodes x = new TroubleCodes();
        Due.plain(x, 0);
        Due.permanent(x, 0);
        Due.drive(x, ".B");
        Due.drive(x, "B.");
        x.clear();
        due.is("foretells", x.foretells(1, 0), 1);
        due.is("sets", x.sets(0), 1);
        Due.drive(x, "B.");
        due.is("a permanent one still foretells", x.foretells(1, 0), 2);
        x.clear();
        Due.drive(x, "..");
        x.clear();
        due.is("the plain one is none", x.about(0, 0), 0);
        Due.drive(x, ".G");
        Due.drive(x, ".B");
        due.is("cleared ones don't foretell", x.foretells(0, 1), 0);
    }

    private static void foretellsFirstAndLast() {
        TroubleCodes x = Due.plains(16);
        Due.drive(x, "...............B");
        Due.drive(x, "B");
        due.is("the last foretells the first", x.foretells(15, 0), 1);
        Due.drive(x, "...............G");
        Due.drive(x, "...............B");
        due.is("the first foretells the last", x.foretells(0, 15), 1);
    }

    private static void sets() {
        TroubleCodes x = new TroubleCodes();
        Due.plain(x, 0);
        for (int i = 1; i < 5; i++) {
            Due.drive(x, "B");
            due.is("sets", x.sets(0), i);
            Due.drive(x, "B");
            due.is("set still", x.sets(0), i);
            Due.drive(x, "G");
            due.is("healed", x.sets(0), i);
        }
        x.clear();
        due.is("cleared", x.sets(0), 4);
        Due.drive(x, "B");
        due.is("set anew", x.sets(0), 5);
    }

    private static void counts() {
        TroubleCodes x = new TroubleCodes();
        for (int i = 0; i < 3; i++) Due.plain(x, 0);
        x.check(0, 0, 2, 1, 9, 0, false);
        x.check(0, 0, 2, 1, 9, 0, false);
        x.check(0, 0, 2, 1, 9, 0, false);
        Due.drive(x, "BBBBBB");
        Due.drive(x, "GG.");
        x.cause(1, 1);
        x.cause(1, 1);
        x.cause(1, 1);
        x.cause(1, 1);
        x.begin();
        int[] want = {6, 2, 3, 1, 2, 3, 4, 1};
        for (int what = 0; what < 8; what++) due.is("count " + what, x.count(what), want[what]);
    }

    /** The digest by the document's words, from what the other calls answer; price and checks of causes as told. */
    private static long digestOf(TroubleCodes x, int[] causes, int[] facts) {
        long h = 211;
        for (int what = 0; what < 8; what++) h = 31 * h + x.count(what);
        for (int c = 0; c < x.count(0); c++) {
            for (int what = 0; what < 8; what++) h = 31 * h + x.about(c, what);
            h = 31 * h + x.frozenAt(c);
            for (int i = 0; i < 4; i++) h = 31 * h + x.frozen(c, i);
            h = 31 * h + x.sets(c);
        }
        for (int fact : facts) h = 31 * h + fact;
        for (int n : causes) h = 31 * h + n;
        return h;
    }

    private static void digestOfAll() {
        TroubleCodes x = new TroubleCodes();
        Due.plain(x, 3);
        Due.permanent(x, 2);
        x.check(2, 0, 1, 1, 3, 1, true);
        int[] facts = {-1000, 1000, 0, 7};
        for (int i = 0; i < 4; i++) x.fact(i, facts[i]);
        x.cause(5, 1000);
        x.cause(2, 1);
        int[] causes = {5, 1000, 2, 1};
        due.is("before", x.digest(), digestOf(x, causes, facts));
        String[] drives = {"BBB", "G.B", ".GG", "...", "B.B"};
        for (String drive : drives) {
            Due.drive(x, drive);
            due.is("after " + drive, x.digest(), digestOf(x, causes, facts));
        }
        x.begin();
        due.is("in a drive", x.digest(), digestOf(x, causes, facts));
    }

    private static void digestIsOfWhatItSays() {
        TroubleCodes x = new TroubleCodes();
        Due.plain(x, 0);
        long d = x.digest();
        x.room(3);
        due.is("room is not in it", x.digest(), d);
        x.begin();
        long driving = x.digest();
        x.ran(0, true);
        due.is("tellings are not in it", x.digest(), driving);
    }
}
