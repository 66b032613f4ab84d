/** Promises 1 to 5, 8, 11, 12: checks, drives, codes, the lamp, clearing. */
public final class ChecksTest {
    private static final Due due = new Due();

    public static void main(String[] args) {
        constants();
        checkNumbers();
        following();
        beginAndEnd();
        badTellingWins();
        pendingAndSet();
        pendingGoneByOneGood();
        badCountStartsAnew();
        setStaysBySomeGood();
        notRunChangesNothing();
        healedAges();
        healedAtOnce();
        permanentAgesTwice();
        healedBadIsSetAgain();
        heldBack();
        heldBackHealed();
        heldBackBySet();
        heldBackOnlyStaysSet();
        countsStayAsGone();
        endCounts();
        aboutRan();
        lamp();
        clear();
        clearCounts();
        due.finish();
    }

    private static void constants() {
        due.is("NONE", TroubleCodes.NONE, -1);
        due.is("BAD", TroubleCodes.BAD, -2);
        due.is("NO", TroubleCodes.NO, -3);
        due.is("FULL", TroubleCodes.FULL, -4);
    }

    private static void checkNumbers() {
        TroubleCodes x = new TroubleCodes();
        due.is("check least", x.check(0, 0, 1, 1, 1, 0, false), 0);
        due.is("check most", x.check(1, 0, 9, 9, 90, 9, true), 1);
        due.is("check following", x.check(2, 1, 1, 1, 1, 0, false), 2);
        due.is("check plain, follows not looked at", x.check(0, -7, 1, 1, 1, 0, false), 3);
        due.is("check permanent, follows not looked at", x.check(1, 99, 1, 1, 1, 0, false), 4);
        due.is("count 0", x.count(0), 5);
        due.is("sort 0", x.about(0, 7), 0);
        due.is("sort 1", x.about(1, 7), 1);
        due.is("sort 2", x.about(2, 7), 2);
    }

    private static void following() {
        TroubleCodes x = new TroubleCodes();
        Due.plain(x, 0);
        Due.plain(x, 0);
        x.check(2, 1, 1, 1, 9, 0, false);
        due.is("set by following the one not bad", Due.drive(x, "B.B"), 2);
        due.is("code", x.about(2, 0), 2);
        due.is("held back now", x.about(2, 4), 0);
        Due.drive(x, ".B.");
        due.is("held back as the other is set", x.about(2, 4), 1);
        due.is("a plain one is not held back", x.about(0, 4), 0);
    }

    private static void beginAndEnd() {
        TroubleCodes x = new TroubleCodes();
        due.is("end first", x.end(), -3);
        for (int i = 0; i < 3; i++) {
            due.is("drives ended", x.count(1), i);
            due.is("begin", x.begin(), i);
            due.is("a drive goes", x.count(7), 1);
            due.is("drives ended while one goes", x.count(1), i);
            long d = x.digest();
            due.refused("begin again", x, d, x.begin(), -3);
            due.is("end", x.end(), 0);
            due.is("no drive goes", x.count(7), 0);
            due.is("end again", x.end(), -3);
        }
    }

    private static void badTellingWins() {
        TroubleCodes x = new TroubleCodes();
        for (int i = 0; i < 3; i++) x.check(0, 0, 9, 9, 9, 0, false);
        x.begin();
        due.is("ran", x.ran(0, true), 1);
        due.is("ran", x.ran(0, false), 1);
        due.is("ran", x.ran(1, false), 1);
        due.is("ran", x.ran(1, true), 1);
        due.is("ran", x.ran(1, true), 1);
        due.is("ran", x.ran(2, false), 1);
        due.is("ran", x.ran(2, false), 1);
        due.is("code in the drive", Due.state(x, 0), 0);
        x.end();
        due.is("bad, good", Due.state(x, 0), Due.state(1, 1, 0, 0));
        due.is("good, bad, bad", Due.state(x, 1), Due.state(1, 1, 0, 0));
        due.is("good, good", Due.state(x, 2), Due.state(0, 0, 1, 0));
        Due.drive(x, "");
        due.is("a telling is for one drive", Due.state(x, 0), Due.state(1, 1, 0, 0));
    }

    private static void pendingAndSet() {
        TroubleCodes x = new TroubleCodes();
        x.check(0, 0, 3, 1, 5, 0, false);
        due.is("bad 1", Due.drive(x, "B"), 0);
        due.is("pending", Due.state(x, 0), Due.state(1, 1, 0, 0));
        due.is("bad 2", Due.drive(x, "B"), 0);
        due.is("pending", Due.state(x, 0), Due.state(1, 2, 0, 0));
        due.is("bad 3", Due.drive(x, "B"), 1);
        due.is("set", Due.state(x, 0), Due.state(2, 3, 0, 0));
        due.is("bad 4: set already", Due.drive(x, "B"), 0);
        due.is("set", Due.state(x, 0), Due.state(2, 4, 0, 0));
    }

    private static void pendingGoneByOneGood() {
        TroubleCodes x = new TroubleCodes();
        x.check(0, 0, 2, 9, 5, 0, false);
        Due.drive(x, "G");
        Due.drive(x, "G");
        due.is("none", Due.state(x, 0), Due.state(0, 0, 2, 0));
        Due.drive(x, "B");
        due.is("pending", Due.state(x, 0), Due.state(1, 1, 0, 0));
        Due.drive(x, "G");
        due.is("gone", Due.state(x, 0), Due.state(0, 0, 1, 0));
    }

    private static void badCountStartsAnew() {
        TroubleCodes x = new TroubleCodes();
        x.check(0, 0, 2, 9, 5, 0, false);
        due.is("set by", Due.drive(x, "B") * 100 + Due.drive(x, "G") * 10 + Due.drive(x, "B"), 0);
        due.is("pending", Due.state(x, 0), Due.state(1, 1, 0, 0));
        due.is("not run between", Due.drive(x, "."), 0);
        due.is("set", Due.drive(x, "B"), 1);
    }

    private static void setStaysBySomeGood() {
        TroubleCodes x = new TroubleCodes();
        x.check(0, 0, 1, 3, 5, 0, false);
        Due.drive(x, "B");
        Due.drive(x, "G");
        Due.drive(x, "G");
        due.is("set still", Due.state(x, 0), Due.state(2, 0, 2, 0));
        due.is("bad", Due.drive(x, "B"), 0);
        due.is("good count anew", Due.state(x, 0), Due.state(2, 1, 0, 0));
        Due.drive(x, "G");
        Due.drive(x, "G");
        due.is("set still", x.about(0, 0), 2);
        Due.drive(x, "G");
        due.is("healed, a drive old", Due.state(x, 0), Due.state(3, 0, 3, 1));
        Due.drive(x, "G");
        due.is("healed, two drives old", Due.state(x, 0), Due.state(3, 0, 4, 2));
    }

    private static void notRunChangesNothing() {
        TroubleCodes x = new TroubleCodes();
        x.check(0, 0, 2, 2, 5, 0, false);
        Due.drive(x, "");
        due.is("none", Due.state(x, 0), 0);
        Due.drive(x, "B");
        Due.drive(x, "");
        due.is("pending", Due.state(x, 0), Due.state(1, 1, 0, 0));
        Due.drive(x, "B");
        Due.drive(x, "G");
        Due.drive(x, "");
        due.is("set", Due.state(x, 0), Due.state(2, 0, 1, 0));
    }

    private static void healedAges() {
        TroubleCodes x = new TroubleCodes();
        x.check(0, 0, 1, 1, 3, 0, false);
        Due.drive(x, "B");
        Due.drive(x, "G");
        due.is("age 1", Due.state(x, 0), Due.state(3, 0, 1, 1));
        Due.drive(x, "");
        due.is("age 2", Due.state(x, 0), Due.state(3, 0, 1, 2));
        due.is("frozen still", x.about(0, 5), 1);
        Due.drive(x, "");
        due.is("gone, counts stay", Due.state(x, 0), Due.state(0, 0, 1, 3));
        due.is("frozen no more", x.about(0, 5), 0);
        Due.drive(x, "");
        due.is("no older", Due.state(x, 0), Due.state(0, 0, 1, 3));
        Due.drive(x, "B");
        due.is("set again", Due.state(x, 0), Due.state(2, 1, 0, 0));
    }

    private static void healedAtOnce() {
        TroubleCodes x = new TroubleCodes();
        x.check(0, 0, 1, 1, 1, 0, false);
        x.check(1, 0, 1, 1, 1, 0, false);
        Due.drive(x, "BB");
        Due.drive(x, "GG");
        due.is("gone at once", Due.state(x, 0), Due.state(0, 0, 1, 1));
        due.is("permanent: not yet", Due.state(x, 1), Due.state(3, 0, 1, 1));
        Due.drive(x, "GG");
        due.is("permanent: gone", Due.state(x, 1), Due.state(0, 0, 2, 2));
    }

    private static void permanentAgesTwice() {
        TroubleCodes x = new TroubleCodes();
        x.check(1, 0, 1, 1, 90, 0, false);
        x.check(0, 0, 1, 1, 90, 0, false);
        Due.drive(x, "BB");
        Due.drive(x, "GG");
        for (int i = 0; i < 88; i++) Due.drive(x, "");
        due.is("plain at 89", Due.state(x, 1), Due.state(3, 0, 1, 89));
        Due.drive(x, "");
        due.is("plain at 90", Due.state(x, 1), Due.state(0, 0, 1, 90));
        due.is("permanent at 90", Due.state(x, 0), Due.state(3, 0, 1, 90));
        due.is("permanent frozen", x.frozenAt(0), 0);
        for (int i = 0; i < 89; i++) Due.drive(x, "");
        due.is("permanent at 179", Due.state(x, 0), Due.state(3, 0, 1, 179));
        Due.drive(x, "");
        due.is("permanent at 180", Due.state(x, 0), Due.state(0, 0, 1, 180));
        due.is("permanent thawed", x.frozenAt(0), -1);
    }

    private static void healedBadIsSetAgain() {
        TroubleCodes x = new TroubleCodes();
        x.check(0, 0, 4, 1, 5, 0, false);
        for (int i = 0; i < 4; i++) Due.drive(x, "B");
        Due.drive(x, "G");
        Due.drive(x, "G");
        due.is("healed", Due.state(x, 0), Due.state(3, 0, 2, 2));
        due.is("one bad drive", Due.drive(x, "B"), 1);
        due.is("set", Due.state(x, 0), Due.state(2, 1, 0, 0));
    }

    private static void heldBack() {
        TroubleCodes x = new TroubleCodes();
        x.check(0, 0, 3, 1, 5, 0, false);
        x.check(2, 0, 1, 1, 5, 0, false);
        x.begin();
        x.ran(0, true);
        due.is("not held back in the drive", x.about(1, 4), 0);
        x.ran(1, true);
        due.is("end", x.end(), 0);
        due.is("stays pending", Due.state(x, 1), Due.state(1, 1, 0, 0));
        due.is("held back by a pending one", x.about(1, 4), 1);
        due.is("followed good in this drive: no more held back", Due.drive(x, "GB"), 1);
        due.is("set", Due.state(x, 1), Due.state(2, 2, 0, 0));
        due.is("not held back", x.about(1, 4), 0);
        TroubleCodes y = new TroubleCodes();
        y.check(0, 0, 3, 1, 5, 0, false);
        y.check(2, 0, 1, 1, 5, 0, false);
        Due.drive(y, "BB");
        Due.drive(y, ".G");
        due.is("pending is gone though held back", y.about(1, 0), 0);
    }

    private static void heldBackHealed() {
        TroubleCodes x = new TroubleCodes();
        x.check(0, 0, 2, 1, 9, 0, false);
        x.check(2, 0, 1, 1, 2, 0, false);
        Due.drive(x, ".B");
        Due.drive(x, ".G");
        due.is("healed", Due.state(x, 1), Due.state(3, 0, 1, 1));
        due.is("held back", Due.drive(x, "BB"), 0);
        due.is("stays healed, age 0", Due.state(x, 1), Due.state(3, 1, 0, 0));
        due.is("frozen from the first", x.frozenAt(1), 0);
        Due.drive(x, "..");
        due.is("older though held back", Due.state(x, 1), Due.state(3, 1, 0, 1));
        Due.drive(x, "..");
        due.is("gone, counts stay", Due.state(x, 1), Due.state(0, 1, 0, 2));
        Due.drive(x, "G.");
        due.is("the followed one is none", x.about(0, 0), 0);
        due.is("set", Due.drive(x, ".B"), 1);
        due.is("bad count went on", Due.state(x, 1), Due.state(2, 2, 0, 0));
    }

    private static void heldBackBySet() {
        TroubleCodes x = new TroubleCodes();
        x.check(0, 0, 1, 2, 2, 0, false);
        x.check(2, 0, 1, 1, 9, 0, false);
        x.check(2, 1, 1, 1, 9, 0, false);
        due.is("end", Due.drive(x, "BBB"), 1);
        due.is("held back by a set one", x.about(1, 0), 1);
        due.is("held back by a pending one that follows", x.about(2, 0), 1);
        Due.drive(x, "GBG");
        due.is("set still holds back", x.about(1, 0), 1);
        due.is("healed holds back no more", Due.drive(x, "GBB"), 1);
        due.is("followed", x.about(0, 0), 3);
        due.is("set", x.about(1, 0), 2);
        due.is("the next is held back by it", x.about(2, 0), 1);
    }

    private static void heldBackOnlyStaysSet() {
        TroubleCodes x = new TroubleCodes();
        Due.plain(x, 0);
        x.check(2, 0, 1, 2, 9, 0, false);
        Due.drive(x, ".B");
        due.is("end", Due.drive(x, "BB"), 1);
        due.is("one that was set stays set", Due.state(x, 1), Due.state(2, 2, 0, 0));
        due.is("held back", x.about(1, 4), 1);
        Due.drive(x, ".G");
        Due.drive(x, ".G");
        due.is("it heals though held back", Due.state(x, 1), Due.state(3, 0, 2, 1));
    }

    private static void countsStayAsGone() {
        TroubleCodes x = new TroubleCodes();
        x.check(0, 0, 2, 2, 1, 0, false);
        Due.drive(x, "B");
        Due.drive(x, "B");
        Due.drive(x, "G");
        Due.drive(x, "G");
        due.is("gone", Due.state(x, 0), Due.state(0, 0, 2, 1));
        Due.drive(x, "G");
        due.is("good count goes on", Due.state(x, 0), Due.state(0, 0, 3, 1));
        Due.drive(x, "B");
        Due.drive(x, "B");
        Due.drive(x, "G");
        due.is("age from 0", Due.state(x, 0), Due.state(2, 0, 1, 0));
    }

    private static void endCounts() {
        TroubleCodes x = new TroubleCodes();
        for (int i = 0; i < 16; i++) x.check(i % 3 == 1 ? 1 : 0, 0, 1 + i % 2, 1, 9, 0, false);
        due.is("end", Due.drive(x, "BBBBBBBBBBBBBBBB"), 8);
        due.is("pending", x.count(2), 8);
        due.is("set", x.count(3), 8);
        due.is("end", Due.drive(x, "BBBBBBBBBBBBBBBB"), 8);
        due.is("end", Due.drive(x, "GGGBBBBBBBBBBBBB"), 0);
        due.is("healed", x.count(4), 3);
        due.is("end", Due.drive(x, "BBBBBBBBBBBBBBBB"), 3);
    }

    private static void aboutRan() {
        TroubleCodes x = new TroubleCodes();
        Due.plain(x, 0);
        Due.plain(x, 0);
        Due.permanent(x, 0);
        x.begin();
        x.ran(0, false);
        x.ran(2, true);
        due.is("ran, not ended", x.about(0, 6), 0);
        x.end();
        due.is("ran good", x.about(0, 6), 1);
        due.is("ran not", x.about(1, 6), 0);
        due.is("ran bad", x.about(2, 6), 1);
        Due.drive(x, ".");
        due.is("ran ever", x.about(0, 6), 1);
        x.clear();
        due.is("cleared", x.about(0, 6), 0);
        due.is("cleared, permanent", x.about(2, 6), 0);
        Due.drive(x, ".B");
        due.is("ran since", x.about(1, 6), 1);
        due.is("ran not since", x.about(0, 6), 0);
    }

    private static void lamp() {
        TroubleCodes x = new TroubleCodes();
        x.check(0, 0, 1, 1, 9, 0, false);
        x.check(0, 0, 2, 1, 9, 0, true);
        x.check(0, 0, 1, 1, 9, 0, true);
        Due.drive(x, "BB.");
        due.is("set without a lamp, pending with one", x.lamp(), 0);
        Due.drive(x, "BB.");
        due.is("set with a lamp", x.lamp(), 1);
        Due.drive(x, "BG.");
        due.is("healed with a lamp", x.lamp(), 0);
        Due.drive(x, "..B");
        due.is("the last one", x.lamp(), 1);
        x.clear();
        due.is("cleared", x.lamp(), 0);
        x.check(1, 0, 1, 1, 9, 0, true);
        Due.drive(x, "...B");
        x.clear();
        due.is("permanent", x.lamp(), 1);
        TroubleCodes y = new TroubleCodes();
        y.check(0, 0, 1, 1, 9, 0, true);
        y.check(0, 0, 1, 1, 9, 0, false);
        Due.drive(y, ".B");
        due.is("the other one is set", y.lamp(), 0);
        Due.drive(y, "B.");
        due.is("the first one", y.lamp(), 1);
    }

    private static void clear() {
        TroubleCodes x = new TroubleCodes();
        x.check(0, 0, 1, 5, 9, 0, false);
        x.check(1, 0, 1, 5, 9, 0, false);
        x.check(1, 0, 2, 5, 9, 0, false);
        x.check(1, 0, 1, 1, 9, 0, false);
        x.check(2, 0, 1, 5, 9, 0, false);
        x.fact(2, 77);
        Due.drive(x, "BBBBB");
        Due.drive(x, "GB.GB");
        due.is("clear", x.clear(), 2);
        due.is("plain", Due.state(x, 0), 0);
        due.is("permanent set", Due.state(x, 1), Due.state(2, 0, 0, 0));
        due.is("permanent pending", Due.state(x, 2), Due.state(1, 0, 0, 0));
        due.is("permanent healed", Due.state(x, 3), Due.state(3, 0, 0, 0));
        due.is("following", Due.state(x, 4), 0);
        due.is("frozen plain", x.frozenAt(0), -1);
        due.is("frozen plain", x.frozen(0, 2), -2000);
        due.is("frozen permanent", x.frozenAt(1), 0);
        due.is("frozen permanent", x.frozen(1, 2), 77);
        due.is("frozen", x.count(5), 2);
        due.is("drives", x.count(1), 2);
        due.is("sets", x.sets(0), 1);
        due.is("facts", x.fact(2, 0), 77);
        due.is("pending, count anew", Due.drive(x, "..B"), 0);
        due.is("healed, age anew", Due.state(x, 3), Due.state(3, 0, 0, 1));
        due.is("pending, set", Due.drive(x, "..B"), 1);
    }

    private static void clearCounts() {
        TroubleCodes x = new TroubleCodes();
        x.check(0, 0, 3, 1, 9, 0, false);
        x.check(0, 0, 1, 1, 9, 0, false);
        x.check(0, 0, 1, 1, 9, 0, false);
        x.check(0, 0, 1, 1, 9, 0, false);
        x.check(1, 0, 1, 1, 9, 0, false);
        Due.drive(x, "BBB.B");
        Due.drive(x, ".G.G.");
        due.is("pending, healed, set; not none, not permanent", x.clear(), 3);
        due.is("again", x.clear(), 0);
        due.is("good count of a none", x.about(3, 2), 0);
    }
}
