/** Boundary cases of promises 3 to 5: drives, what is told in them, what becomes of codes as they end. */
final class EdgesOfDrives {
    private static final int LEAST = Integer.MIN_VALUE, MOST = Integer.MAX_VALUE;
    private static final String REFUSED =
        "Refused, changing nothing, the first of: BAD -2 a number is not as told; NO -3 as told; FULL -4.";
    private static final String ONCE = "it counts in a DRIVE once: BAD if any telling was BAD, else GOOD if any was.";
    private static final String BAD = "BAD: its good count and age are 0, its bad count one more: NONE becomes PENDING;"
        + " with the bad count at bad or more, or if it was HEALED, it becomes SET, if it is not HELD BACK"
        + " (else it stays PENDING, HEALED).";
    private static final String GOOD = "GOOD: its bad count is 0, its good count one more; PENDING: with the good count at 1"
        + " it is NONE; SET: with the good count at good it is HEALED, its age 0.";
    private static final String OLDER = "Then, if it is HEALED (perhaps just now) and was not BAD: its age is one more;"
        + " at its age's number (of a PERMANENT one at twice that) it is NONE, and what is FROZEN for it goes. (Counts stay.)";
    private static final String HELD = "HELD BACK is a FOLLOWING CHECK, as long as the CODE of the one it follows is PENDING"
        + " or SET as it stands at that time of the DRIVE's end.";

    private final Due due;

    EdgesOfDrives(Due due) {
        this.due = due;
    }

    void run() {
        beginNumbers();
        beginTwice();
        ranAnswers();
        ranRefused();
        ranOutOfADrive();
        once();
        endCounts();
        endRefused();
        badLimits();
        badBeyondTheLimit();
        badOfEachCode();
        badHealed();
        badHeldBack();
        goodLimits();
        goodOfEachCode();
        goodPending();
        goodSet();
        goodHealed();
        notRun();
        ageLimits();
        agePermanent();
        ageWhen();
        ageThaws();
        ageCountsStay();
        heldByCodes();
        heldAtThatTime();
        heldInARow();
        heldOnlyThere();
    }

    private void beginNumbers() {
        due.edge(3, "A DRIVE begins: the how many-th (from 0 on).", "from 0 to as many as 512 calls hold");
        TroubleCodes x = new TroubleCodes();
        for (int i = 0; i < 255; i++) {
            due.is("begin()", x.begin(), i);
            x.end();
        }
        due.is("begin()", x.begin(), 255);
        due.is("count(1)", x.count(1), 255);
    }

    private void beginTwice() {
        due.edge(3, "NO: one goes.", "again while one goes");
        TroubleCodes x = Due.plains(2);
        x.begin();
        x.ran(1, true);
        long d = x.digest();
        due.refused("begin()", x, d, x.begin(), -3);
        due.is("end(), what was told is kept", x.end(), 1);
        due.is("begin(), the refused one is not counted", x.begin(), 1);
    }

    private void ranAnswers() {
        due.edge(4, "A CHECK ran in it, BAD or GOOD: 1.", "the first and the last check, told again");
        TroubleCodes x = Due.plains(16);
        x.begin();
        for (int i = 0; i < 2; i++) {
            due.is("ran(0, true)", x.ran(0, true), 1);
            due.is("ran(15, false)", x.ran(15, false), 1);
            due.is("ran(15, true)", x.ran(15, true), 1);
        }
        due.is("end()", x.end(), 2);
    }

    private void ranRefused() {
        TroubleCodes x = Due.plains(3);
        x.begin();
        x.ran(0, false);
        long d = x.digest();
        due.edge(4, "BAD; NO: no DRIVE goes.", "a check that is not there");
        for (int c : new int[] {-1, 3, 15, 16, LEAST, MOST}) due.refused("ran(" + c + ", true)", x, d, x.ran(c, true), -2);
        due.is("end(), nothing was told", x.end(), 0);
        due.is("a check beyond the 16th", Due.plains(16).ran(16, true), -2);
        due.edge(4, REFUSED, "ran: bad ahead of no");
        due.is("ran(3, true)", x.ran(3, true), -2);
        due.is("ran(-1, false)", x.ran(-1, false), -2);
    }

    private void ranOutOfADrive() {
        due.edge(4, "BAD; NO: no DRIVE goes.", "ahead of the first drive");
        TroubleCodes x = Due.plains(1);
        due.is("ran(0, true)", x.ran(0, true), -3);
        due.is("end(), nothing was told", Due.drive(x, ""), 0);
        due.is("about(0, 6)", x.about(0, 6), 0);
        due.edge(4, "BAD; NO: no DRIVE goes.", "after a drive");
        long d = x.digest();
        due.refused("ran(0, true)", x, d, x.ran(0, true), -3);
        due.refused("ran(0, false)", x, d, x.ran(0, false), -3);
        due.is("end(), nothing was told", Due.drive(x, ""), 0);
        due.is("about(0, 6)", x.about(0, 6), 0);
    }

    /** The state of a check that needs nine of all, after one drive with these tellings (B, G). */
    private static long told(String tellings) {
        TroubleCodes x = new TroubleCodes();
        x.check(0, 0, 9, 9, 90, 0, false);
        x.begin();
        for (int i = 0; i < tellings.length(); i++) x.ran(0, tellings.charAt(i) == 'B');
        x.end();
        return Due.state(x, 0);
    }

    private void once() {
        due.edge(5, ONCE, "bad told more than once");
        due.is("BBBBBBBBB", told("BBBBBBBBB"), Due.state(1, 1, 0, 0));
        due.edge(5, ONCE, "good told more than once");
        due.is("GGGGGGGGG", told("GGGGGGGGG"), Due.state(0, 0, 1, 0));
        due.edge(5, ONCE, "bad first, last, between");
        for (String row : new String[] {"BG", "GB", "GBG", "BGGG", "GGGB", "BGB"}) due.is(row, told(row), Due.state(1, 1, 0, 0));
        due.edge(5, "A DRIVE begins and ends; in it each CHECK may be told RUN BAD, RUN GOOD, or not run", "told nothing");
        due.is("not run", told(""), 0);
        due.edge(5, ONCE, "a telling is of one drive alone");
        TroubleCodes x = new TroubleCodes();
        x.check(0, 0, 9, 9, 90, 0, false);
        Due.drive(x, "B");
        Due.drive(x, "G");
        due.is("bad, then good", Due.state(x, 0), Due.state(0, 0, 1, 0));
        Due.drive(x, "");
        due.is("then not run", Due.state(x, 0), Due.state(0, 0, 1, 0));
    }

    private void endCounts() {
        String sentence = "The DRIVE ends: how many CODES became SET.";
        due.edge(5, sentence, "no checks");
        due.is("end()", Due.drive(new TroubleCodes(), ""), 0);
        due.edge(5, sentence, "all 16, with facts frozen for 8 of them");
        TroubleCodes x = Due.plains(16);
        due.is("end()", Due.drive(x, "BBBBBBBBBBBBBBBB"), 16);
        due.edge(5, sentence, "those that were set don't become set");
        due.is("end()", Due.drive(x, "BBBBBBBBBBBBBBBB"), 0);
        due.edge(5, sentence, "pending ones are not counted, healed ones that become set are");
        TroubleCodes y = Due.plains(1);
        y.check(0, 0, 2, 1, 9, 0, false);
        Due.drive(y, "B");
        due.is("healed", Due.drive(y, "G"), 0);
        due.is("end()", Due.drive(y, "BB"), 1);
        due.edge(5, "As the DRIVE ends", "nothing changes ahead of it");
        TroubleCodes z = Due.plains(1);
        z.begin();
        z.ran(0, true);
        due.is("state", Due.state(z, 0), 0);
        due.is("count(3)", z.count(3), 0);
        due.is("end()", z.end(), 1);
    }

    private void endRefused() {
        due.edge(5, "NO: none goes.", "ahead of the first drive, after one");
        TroubleCodes x = Due.plains(1);
        long d = x.digest();
        due.refused("end()", x, d, x.end(), -3);
        Due.drive(x, "B");
        d = x.digest();
        due.refused("end()", x, d, x.end(), -3);
        due.is("begin(), the refused one is not counted", x.begin(), 1);
    }

    private void badLimits() {
        for (int limit = 1; limit < 10; limit++) {
            due.edge(5, BAD, "the bad count one less than bad, at bad " + limit);
            TroubleCodes x = new TroubleCodes();
            x.check(0, 0, limit, 1, 9, 0, false);
            Due.drives(x, limit - 1, "B");
            due.is("one less", Due.state(x, 0), Due.state(limit == 1 ? 0 : 1, limit - 1, 0, 0));
            due.is("end()", Due.drive(x, "B"), 1);
            due.is("as many", Due.state(x, 0), Due.state(2, limit, 0, 0));
        }
        due.edge(5, BAD, "a good drive between: the bad count from 0");
        TroubleCodes y = new TroubleCodes();
        y.check(0, 0, 2, 1, 9, 0, false);
        Due.drive(y, "B");
        Due.drive(y, "G");
        due.is("end()", Due.drive(y, "B"), 0);
        due.is("end()", Due.drive(y, "B"), 1);
        due.edge(5, BAD, "not run between: the bad count goes on");
        TroubleCodes z = new TroubleCodes();
        z.check(0, 0, 2, 1, 9, 0, false);
        Due.drive(z, "B");
        Due.drive(z, ".");
        due.is("end()", Due.drive(z, "B"), 1);
    }

    private void badBeyondTheLimit() {
        due.edge(5, "with the bad count at bad or more", "more, as it was held back at bad");
        TroubleCodes x = new TroubleCodes();
        x.check(0, 0, 9, 1, 9, 0, false);
        x.check(2, 0, 2, 1, 9, 0, false);
        Due.drives(x, 4, "BB");
        due.is("held back", Due.state(x, 1), Due.state(1, 4, 0, 0));
        Due.drive(x, "G.");
        due.is("not run, not held back", Due.state(x, 1), Due.state(1, 4, 0, 0));
        due.is("end()", Due.drive(x, ".B"), 1);
        due.is("more", Due.state(x, 1), Due.state(2, 5, 0, 0));
        due.edge(5, BAD, "the bad count has no end");
        TroubleCodes y = Due.plains(1);
        Due.drives(y, 200, "B");
        due.is("200 drives", y.about(0, 1), 200);
        due.is("code", y.about(0, 0), 2);
    }

    private void badOfEachCode() {
        due.edge(5, BAD, "the good count of none, pending, set");
        TroubleCodes x = new TroubleCodes();
        x.check(0, 0, 2, 9, 9, 0, false);
        Due.drives(x, 3, "G");
        due.is("none", Due.state(x, 0), Due.state(0, 0, 3, 0));
        Due.drive(x, "B");
        due.is("pending", Due.state(x, 0), Due.state(1, 1, 0, 0));
        Due.drive(x, "B");
        Due.drives(x, 8, "G");
        due.is("set", Due.state(x, 0), Due.state(2, 0, 8, 0));
        Due.drive(x, "B");
        due.is("set still", Due.state(x, 0), Due.state(2, 1, 0, 0));
        Due.drives(x, 8, "G");
        due.is("good from 0", x.about(0, 0), 2);
        due.edge(5, BAD, "the age of one that is gone by age");
        TroubleCodes y = new TroubleCodes();
        y.check(0, 0, 2, 1, 1, 0, false);
        Due.drives(y, 2, "B");
        Due.drive(y, "G");
        due.is("gone", Due.state(y, 0), Due.state(0, 0, 1, 1));
        Due.drive(y, "B");
        due.is("pending", Due.state(y, 0), Due.state(1, 1, 0, 0));
    }

    private void badHealed() {
        due.edge(5, "or if it was HEALED, it becomes SET", "by one bad drive of nine");
        TroubleCodes x = new TroubleCodes();
        x.check(0, 0, 9, 1, 3, 0, false);
        Due.drives(x, 9, "B");
        Due.drive(x, "G");
        Due.drive(x, "G");
        due.is("healed, age one less", Due.state(x, 0), Due.state(3, 0, 2, 2));
        due.is("end()", Due.drive(x, "B"), 1);
        due.is("set", Due.state(x, 0), Due.state(2, 1, 0, 0));
        Due.drive(x, "G");
        due.is("the age from 0", Due.state(x, 0), Due.state(3, 0, 1, 1));
        due.edge(5, "or if it was HEALED, it becomes SET", "one that is gone was not");
        Due.drives(x, 2, "G");
        due.is("gone", x.about(0, 0), 0);
        due.is("end()", Due.drive(x, "B"), 0);
        due.is("pending", Due.state(x, 0), Due.state(1, 1, 0, 0));
    }

    private void badHeldBack() {
        due.edge(5, "(else it stays PENDING, HEALED)", "none becomes pending");
        TroubleCodes x = Due.plains(1);
        x.check(2, 0, 1, 1, 3, 0, false);
        Due.drive(x, "B");
        due.is("end()", Due.drive(x, ".B"), 0);
        due.is("pending", Due.state(x, 1), Due.state(1, 1, 0, 0));
        due.edge(5, "(else it stays PENDING, HEALED)", "pending stays");
        due.is("end()", Due.drive(x, ".B"), 0);
        due.is("pending", Due.state(x, 1), Due.state(1, 2, 0, 0));
        due.edge(5, "(else it stays PENDING, HEALED)", "healed stays, no older, with age 0");
        TroubleCodes y = Due.plains(1);
        y.check(2, 0, 1, 1, 3, 0, false);
        Due.drive(y, ".B");
        Due.drives(y, 2, ".G");
        due.is("healed, age one less", Due.state(y, 1), Due.state(3, 0, 2, 2));
        due.is("end(), of the first alone", Due.drive(y, "BB"), 1);
        due.is("healed", Due.state(y, 1), Due.state(3, 1, 0, 0));
        due.is("frozen as it was", y.frozenAt(1), 0);
        due.edge(5, "(else it stays PENDING, HEALED)", "set was set and stays");
        TroubleCodes z = Due.plains(1);
        Due.following(z, 0);
        Due.drive(z, ".B");
        due.is("end(), of the first alone", Due.drive(z, "BB"), 1);
        due.is("set", Due.state(z, 1), Due.state(2, 2, 0, 0));
    }

    private void goodLimits() {
        for (int limit = 1; limit < 10; limit++) {
            due.edge(5, GOOD, "the good count one less than good, at good " + limit);
            TroubleCodes x = new TroubleCodes();
            x.check(0, 0, 1, limit, 9, 0, false);
            Due.drive(x, "B");
            Due.drives(x, limit - 1, "G");
            due.is("one less", Due.state(x, 0), Due.state(2, limit == 1 ? 1 : 0, limit - 1, 0));
            Due.drive(x, "G");
            due.is("as many", Due.state(x, 0), Due.state(3, 0, limit, 1));
        }
    }

    private void goodOfEachCode() {
        due.edge(5, GOOD, "the good count has no end");
        TroubleCodes x = Due.plains(1);
        Due.drives(x, 200, "G");
        due.is("200 drives", x.about(0, 2), 200);
        due.edge(5, GOOD, "the bad count of pending, set");
        TroubleCodes y = new TroubleCodes();
        y.check(0, 0, 3, 9, 9, 0, false);
        Due.drives(y, 2, "B");
        Due.drive(y, "G");
        due.is("pending", Due.state(y, 0), Due.state(0, 0, 1, 0));
        Due.drives(y, 3, "B");
        Due.drive(y, "G");
        due.is("set", Due.state(y, 0), Due.state(2, 0, 1, 0));
        due.edge(5, GOOD, "the bad count of one that is healed, held back");
        TroubleCodes z = Due.plains(1);
        Due.following(z, 0);
        Due.drive(z, ".B");
        Due.drive(z, ".G");
        Due.drive(z, "BB");
        due.is("healed, held back", Due.state(z, 1), Due.state(3, 1, 0, 0));
        Due.drive(z, ".G");
        due.is("healed", Due.state(z, 1), Due.state(3, 0, 1, 1));
    }

    private void goodPending() {
        due.edge(5, "PENDING: with the good count at 1 it is NONE", "whatever good is, bad one less");
        for (int good = 1; good < 10; good++) {
            TroubleCodes x = new TroubleCodes();
            x.check(0, 0, 9, good, 9, 0, false);
            Due.drives(x, 8, "B");
            Due.drive(x, "G");
            due.is("good " + good, Due.state(x, 0), Due.state(0, 0, 1, 0));
        }
        due.edge(5, "PENDING: with the good count at 1 it is NONE", "one that was good often ahead of it");
        TroubleCodes y = new TroubleCodes();
        y.check(0, 0, 2, 3, 9, 0, false);
        Due.drives(y, 5, "G");
        Due.drive(y, "B");
        Due.drive(y, "G");
        due.is("state", Due.state(y, 0), Due.state(0, 0, 1, 0));
        due.edge(5, "PENDING: with the good count at 1 it is NONE", "one that is held back, as bad often");
        TroubleCodes z = Due.plains(1);
        Due.following(z, 0);
        Due.drive(z, "B");
        Due.drives(z, 5, ".B");
        Due.drive(z, ".G");
        due.is("state", Due.state(z, 1), Due.state(0, 0, 1, 0));
    }

    private void goodSet() {
        due.edge(5, "SET: with the good count at good it is HEALED, its age 0.", "not run between: the good count goes on");
        TroubleCodes x = new TroubleCodes();
        x.check(0, 0, 1, 2, 9, 0, false);
        Due.drive(x, "B");
        Due.drive(x, "G");
        Due.drives(x, 3, ".");
        due.is("set", Due.state(x, 0), Due.state(2, 0, 1, 0));
        Due.drive(x, "G");
        due.is("healed", Due.state(x, 0), Due.state(3, 0, 2, 1));
        due.edge(5, "SET: with the good count at good it is HEALED, its age 0.", "the age of an earlier healing is not in it");
        Due.drives(x, 4, "");
        due.is("healed", Due.state(x, 0), Due.state(3, 0, 2, 5));
        Due.drive(x, "B");
        Due.drives(x, 2, "G");
        due.is("healed anew", Due.state(x, 0), Due.state(3, 0, 2, 1));
    }

    private void goodHealed() {
        String sentence = "SET: with the good count at good it is HEALED, its age 0.";
        due.edge(5, sentence, "healed already, the good count at good anew as it was cleared: its age goes on");
        TroubleCodes x = new TroubleCodes();
        x.check(1, 0, 1, 3, 9, 0, false);
        Due.drive(x, "B");
        Due.drives(x, 3, "G");
        x.clear();
        Due.drives(x, 2, "G");
        due.is("one less", Due.state(x, 0), Due.state(3, 0, 2, 2));
        Due.drive(x, "G");
        due.is("at good", Due.state(x, 0), Due.state(3, 0, 3, 3));
        due.edge(5, sentence, "healed already, the good count at good anew as it was held back: its age goes on");
        TroubleCodes y = Due.plains(1);
        y.check(2, 0, 1, 2, 9, 0, false);
        Due.drive(y, ".B");
        Due.drives(y, 2, ".G");
        Due.drive(y, "BB");
        Due.drive(y, ".G");
        due.is("one less", Due.state(y, 1), Due.state(3, 0, 1, 1));
        Due.drive(y, ".G");
        due.is("at good", Due.state(y, 1), Due.state(3, 0, 2, 2));
    }

    private void notRun() {
        due.edge(5, "Not run: nothing of these.", "each code");
        TroubleCodes x = new TroubleCodes();
        x.check(0, 0, 2, 2, 9, 0, false);
        Due.drive(x, "G");
        Due.drives(x, 3, "");
        due.is("none", Due.state(x, 0), Due.state(0, 0, 1, 0));
        Due.drive(x, "B");
        Due.drives(x, 3, "");
        due.is("pending", Due.state(x, 0), Due.state(1, 1, 0, 0));
        Due.drive(x, "B");
        Due.drives(x, 3, "");
        due.is("set", Due.state(x, 0), Due.state(2, 2, 0, 0));
        Due.drives(x, 2, "G");
        Due.drives(x, 3, "");
        due.is("healed, it grows older", Due.state(x, 0), Due.state(3, 0, 2, 4));
    }

    /** A set check of this sort and age; it follows check 0, that ages not, if its sort is 2. Its number is 1. */
    private static TroubleCodes healing(int sort, int age) {
        TroubleCodes x = Due.plains(1);
        x.check(sort, 0, 1, 1, age, 0, false);
        Due.drive(x, ".B");
        return x;
    }

    private void ageLimits() {
        for (int age : new int[] {1, 2, 3, 89, 90}) {
            for (int sort = 0; sort < 3; sort += 2) {
                due.edge(5, OLDER, "the age one less than its number, at it: " + age + ", sort " + sort);
                TroubleCodes x = healing(sort, age);
                if (age > 1) Due.drive(x, ".G");
                Due.drives(x, age - 2, "");
                due.is("one less", x.about(1, 0), age == 1 ? 2 : 3);
                due.is("age one less", x.about(1, 3), age - 1);
                Due.drive(x, age == 1 ? ".G" : "");
                due.is("gone", Due.state(x, 1), Due.state(0, 0, 1, age));
            }
        }
        due.edge(5, OLDER, "one that is gone grows no older");
        TroubleCodes y = healing(0, 2);
        Due.drives(y, 6, ".G");
        due.is("state", Due.state(y, 1), Due.state(0, 0, 6, 2));
    }

    private void agePermanent() {
        for (int age : new int[] {1, 2, 90}) {
            due.edge(5, "(of a PERMANENT one at twice that)", "at the number, one less than twice, twice: " + age);
            TroubleCodes x = healing(1, age);
            Due.drive(x, ".G");
            Due.drives(x, age - 1, "");
            due.is("at the number", Due.state(x, 1), Due.state(3, 0, 1, age));
            Due.drives(x, age - 1, "");
            due.is("one less than twice", Due.state(x, 1), Due.state(3, 0, 1, 2 * age - 1));
            Due.drive(x, "");
            due.is("twice", Due.state(x, 1), Due.state(0, 0, 1, 2 * age));
        }
    }

    private void ageWhen() {
        due.edge(5, "Then, if it is HEALED (perhaps just now) and was not BAD: its age is one more", "just now");
        TroubleCodes x = healing(2, 90);
        Due.drive(x, ".G");
        due.is("just healed", Due.state(x, 1), Due.state(3, 0, 1, 1));
        due.edge(5, "Then, if it is HEALED (perhaps just now) and was not BAD: its age is one more", "good, not run");
        Due.drive(x, ".G");
        due.is("good", Due.state(x, 1), Due.state(3, 0, 2, 2));
        Due.drive(x, "..");
        due.is("not run", Due.state(x, 1), Due.state(3, 0, 2, 3));
        due.edge(5, "Then, if it is HEALED (perhaps just now) and was not BAD: its age is one more", "bad, held back");
        Due.drive(x, "BB");
        due.is("bad", Due.state(x, 1), Due.state(3, 1, 0, 0));
        Due.drive(x, "..");
        due.is("not run", Due.state(x, 1), Due.state(3, 1, 0, 1));
        due.edge(5, "Then, if it is HEALED (perhaps just now) and was not BAD: its age is one more", "other codes grow no older");
        TroubleCodes y = Due.plains(1);
        y.check(0, 0, 2, 1, 9, 0, false);
        Due.drive(y, "BB");
        Due.drives(y, 3, "");
        due.is("set", Due.state(y, 0), Due.state(2, 1, 0, 0));
        due.is("pending", Due.state(y, 1), Due.state(1, 1, 0, 0));
    }

    private void ageThaws() {
        for (int sort = 0; sort < 3; sort++) {
            due.edge(5, "and what is FROZEN for it goes", "at the age, one less than it, sort " + sort);
            TroubleCodes x = healing(sort, 1 + sort % 2);
            x.fact(2, 5);
            int ages = sort == 1 ? 4 : 1;
            if (ages > 1) Due.drives(x, ages - 1, ".G");
            due.is("one less", x.frozenAt(1), 0);
            due.is("count(5)", x.count(5), 1);
            Due.drive(x, ".G");
            due.is("gone", x.frozenAt(1), -1);
            due.is("frozen(1, 2)", x.frozen(1, 2), -2000);
            due.is("count(5)", x.count(5), 0);
        }
        due.edge(5, "and what is FROZEN for it goes", "that of others stays; one without facts goes too");
        TroubleCodes y = new TroubleCodes();
        for (int i = 0; i < 3; i++) y.check(0, 0, 1, 1, 2, i, false);
        y.room(2);
        Due.drive(y, "BBB");
        Due.drive(y, "GG.");
        due.is("frozen", Due.frozenBits(y), 0b110);
        Due.drive(y, "");
        due.is("frozen", Due.frozenBits(y), 0b100);
        due.is("healed", y.count(4), 0);
    }

    private void ageCountsStay() {
        due.edge(5, "(Counts stay.)", "the good count and the age of one that is gone by a good drive");
        TroubleCodes x = new TroubleCodes();
        x.check(0, 0, 1, 3, 1, 0, false);
        Due.drive(x, "B");
        Due.drives(x, 3, "G");
        due.is("state", Due.state(x, 0), Due.state(0, 0, 3, 1));
        Due.drive(x, "G");
        due.is("the good count goes on", Due.state(x, 0), Due.state(0, 0, 4, 1));
        due.edge(5, "(Counts stay.)", "the bad count of one that was held back");
        TroubleCodes y = Due.plains(1);
        y.check(2, 0, 2, 1, 2, 0, false);
        Due.drives(y, 2, ".B");
        Due.drive(y, ".G");
        due.is("healed", Due.state(y, 1), Due.state(3, 0, 1, 1));
        Due.drive(y, "BB");
        due.is("healed, held back", Due.state(y, 1), Due.state(3, 1, 0, 0));
        Due.drives(y, 2, "");
        due.is("gone", Due.state(y, 1), Due.state(0, 1, 0, 2));
        Due.drive(y, "G");
        due.is("end(), the bad count goes on to its number", Due.drive(y, ".B"), 1);
        due.is("set", Due.state(y, 1), Due.state(2, 2, 0, 0));
    }

    private void heldByCodes() {
        due.edge(5, HELD, "the followed one none");
        TroubleCodes x = new TroubleCodes();
        x.check(0, 0, 2, 1, 3, 0, false);
        for (int i = 0; i < 4; i++) Due.following(x, 0);
        due.is("end()", Due.drive(x, ".B"), 1);
        due.edge(5, HELD, "the followed one pending");
        Due.drive(x, "B");
        due.is("end()", Due.drive(x, "..B"), 0);
        due.edge(5, HELD, "the followed one set");
        Due.drive(x, "B");
        due.is("end()", Due.drive(x, "..BB"), 0);
        due.edge(5, HELD, "the followed one healed");
        Due.drive(x, "G");
        due.is("end()", Due.drive(x, "....B"), 1);
        due.edge(5, HELD, "the followed one gone by age");
        Due.drive(x, "");
        due.is("code", x.about(0, 0), 0);
        due.is("end()", Due.drive(x, "...B"), 1);
    }

    private void heldAtThatTime() {
        due.edge(5, HELD, "the followed one becomes pending at this end");
        TroubleCodes x = new TroubleCodes();
        x.check(0, 0, 2, 1, 9, 0, false);
        Due.following(x, 0);
        due.is("end()", Due.drive(x, "BB"), 0);
        due.edge(5, HELD, "the followed one becomes none at this end");
        due.is("end()", Due.drive(x, "GB"), 1);
        due.edge(5, HELD, "the followed one becomes set at this end");
        TroubleCodes y = Due.plains(1);
        Due.following(y, 0);
        due.is("end(), of the first alone", Due.drive(y, "BB"), 1);
        due.is("code", y.about(1, 0), 1);
        due.edge(5, HELD, "the followed one becomes healed at this end");
        due.is("end()", Due.drive(y, "GB"), 1);
        due.is("code", y.about(1, 0), 2);
        due.edge(5, HELD, "the followed one becomes set again, from healed, at this end");
        Due.following(y, 0);
        due.is("end(), of the first alone", Due.drive(y, "B.B"), 1);
        due.is("code", y.about(2, 0), 1);
    }

    private void heldInARow() {
        due.edge(5, "As the DRIVE ends each CHECK, by numbers, first by what it was told:", "16 in a row, each following the last");
        TroubleCodes x = new TroubleCodes();
        for (int i = 0; i < 16; i++) x.check(i == 0 ? 0 : 2, i - 1, 1, 1, 90, 0, false);
        due.is("end(), all bad", Due.drive(x, "BBBBBBBBBBBBBBBB"), 1);
        due.is("pending", x.count(2), 15);
        due.is("end(), the first good", Due.drive(x, "GBBBBBBBBBBBBBBB"), 1);
        due.is("set", x.about(1, 0), 2);
        due.is("end(), every other good", Due.drive(x, "GGBGBGBGBGBGBGBG"), 7);
        due.is("set", x.about(2, 0), 2);
        due.is("none", x.about(3, 0), 0);
        due.is("pending", x.count(2), 0);
    }

    private void heldOnlyThere() {
        due.edge(5, "HELD BACK is a FOLLOWING CHECK", "plain and permanent ones become set, whatever number they were given");
        TroubleCodes x = Due.plains(1);
        Due.drive(x, "B");
        x.check(0, 0, 1, 1, 9, 0, false);
        x.check(1, 0, 1, 1, 9, 0, false);
        due.is("end()", Due.drive(x, ".BB"), 2);
        due.edge(5, HELD, "another one than the followed one");
        TroubleCodes y = Due.plains(3);
        Due.following(y, 1);
        due.is("end()", Due.drive(y, "B.BB"), 3);
    }
}
