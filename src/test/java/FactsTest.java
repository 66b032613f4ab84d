/** Promises 6, 7, 9, 10: facts, what is frozen, room. */
public final class FactsTest {
    private static final Due due = new Due();

    public static void main(String[] args) {
        facts();
        frozenAsSet();
        frozenAnew();
        frozenStaysWhileSet();
        leastWeightGoes();
        firstFrozenGoes();
        orderWithinADrive();
        refreezingIsTheLast();
        permanentStays();
        newOneGoes();
        newLightOneGoes();
        ownFrozenGoesFirst();
        agedMakesRoomForLaterChecks();
        roomSmaller();
        roomPermanentStay();
        due.finish();
    }

    private static void facts() {
        TroubleCodes x = new TroubleCodes();
        for (int i = 0; i < 4; i++) due.is("first", x.fact(i, 10 + i), 0);
        for (int i = 0; i < 4; i++) due.is("then", x.fact(i, -1000), 10 + i);
        for (int i = 0; i < 4; i++) due.is("least", x.fact(i, 1000), -1000);
        for (int i = 0; i < 4; i++) due.is("most", x.fact(i, 0), 1000);
        x.begin();
        due.is("in a drive", x.fact(0, 5), 0);
    }

    private static void tellFacts(TroubleCodes x, int a) {
        for (int i = 0; i < 4; i++) x.fact(i, a + i);
    }

    private static void isFrozen(String what, TroubleCodes x, int check, int drive, int a) {
        due.is(what + ": frozenAt", x.frozenAt(check), drive);
        due.is(what + ": about", x.about(check, 5), 1);
        for (int i = 0; i < 4; i++) due.is(what + ": frozen " + i, x.frozen(check, i), a + i);
    }

    private static void isNotFrozen(String what, TroubleCodes x, int check) {
        due.is(what + ": frozenAt", x.frozenAt(check), -1);
        due.is(what + ": about", x.about(check, 5), 0);
        for (int i = 0; i < 4; i++) due.is(what + ": frozen " + i, x.frozen(check, i), -2000);
    }

    private static void frozenAsSet() {
        TroubleCodes x = new TroubleCodes();
        x.check(0, 0, 2, 1, 9, 0, false);
        tellFacts(x, 10);
        Due.drive(x, "B");
        isNotFrozen("pending", x, 0);
        x.begin();
        x.ran(0, true);
        tellFacts(x, 20);
        x.end();
        tellFacts(x, 30);
        isFrozen("set", x, 0, 1, 20);
        due.is("count", x.count(5), 1);
    }

    private static void frozenAnew() {
        TroubleCodes x = new TroubleCodes();
        Due.plain(x, 0);
        tellFacts(x, 10);
        Due.drive(x, "B");
        Due.drive(x, "G");
        isFrozen("healed", x, 0, 0, 10);
        tellFacts(x, 20);
        Due.drive(x, "B");
        isFrozen("set again", x, 0, 2, 20);
        due.is("count", x.count(5), 1);
    }

    private static void frozenStaysWhileSet() {
        TroubleCodes x = new TroubleCodes();
        Due.plain(x, 0);
        tellFacts(x, 10);
        Due.drive(x, "B");
        tellFacts(x, 20);
        Due.drive(x, "B");
        isFrozen("set still", x, 0, 0, 10);
    }

    private static void leastWeightGoes() {
        TroubleCodes x = new TroubleCodes();
        Due.plain(x, 5);
        Due.plain(x, 3);
        Due.plain(x, 9);
        Due.plain(x, 4);
        x.room(3);
        Due.drive(x, "BBB");
        due.is("room for all", Due.frozenBits(x), 7);
        Due.drive(x, "...B");
        due.is("the least weight goes", Due.frozenBits(x), 0b1101);
        due.is("its code stays", x.about(1, 0), 2);
        due.is("count", x.count(5), 3);
        due.is("the new one stays", x.frozenAt(3), 1);
    }

    private static void firstFrozenGoes() {
        TroubleCodes x = new TroubleCodes();
        for (int i = 0; i < 4; i++) Due.plain(x, 2);
        x.room(3);
        Due.drive(x, "..B");
        Due.drive(x, "B");
        Due.drive(x, ".B");
        Due.drive(x, "...B");
        due.is("the first frozen goes", Due.frozenBits(x), 0b1011);
    }

    private static void orderWithinADrive() {
        TroubleCodes x = new TroubleCodes();
        for (int i = 0; i < 16; i++) Due.plain(x, 2);
        Due.drive(x, "BBBBBBBBBBBBBBBB");
        due.is("by numbers", Due.frozenBits(x), 0xff00);
        due.is("all set", x.count(3), 16);
        due.is("count", x.count(5), 8);
    }

    private static void refreezingIsTheLast() {
        TroubleCodes x = new TroubleCodes();
        for (int i = 0; i < 3; i++) Due.plain(x, 2);
        x.room(2);
        Due.drive(x, "BB");
        Due.drive(x, "G");
        Due.drive(x, "B");
        due.is("both", Due.frozenBits(x), 3);
        due.is("frozen anew", x.frozenAt(0), 2);
        Due.drive(x, "..B");
        due.is("the other is the first frozen now", Due.frozenBits(x), 0b101);
    }

    private static void permanentStays() {
        TroubleCodes x = new TroubleCodes();
        Due.permanent(x, 0);
        Due.plain(x, 9);
        Due.plain(x, 8);
        Due.permanent(x, 0);
        x.room(2);
        Due.drive(x, "BBB");
        due.is("of the others the least", Due.frozenBits(x), 0b0011);
        Due.drive(x, "...B");
        due.is("permanent in, plain out", Due.frozenBits(x), 0b1001);
    }

    private static void newOneGoes() {
        TroubleCodes x = new TroubleCodes();
        Due.permanent(x, 0);
        Due.permanent(x, 9);
        Due.plain(x, 9);
        x.room(1);
        due.is("end", Due.drive(x, "BB"), 2);
        due.is("the new permanent one goes", Due.frozenBits(x), 1);
        due.is("its code stays", x.about(1, 0), 2);
        due.is("end", Due.drive(x, "..B"), 1);
        due.is("the new plain one goes", Due.frozenBits(x), 1);
        due.is("its code stays", x.about(2, 0), 2);
        due.is("frozen since the first", x.frozenAt(0), 0);
    }

    private static void newLightOneGoes() {
        TroubleCodes x = new TroubleCodes();
        Due.plain(x, 5);
        Due.plain(x, 4);
        Due.plain(x, 5);
        x.room(1);
        Due.drive(x, "BB");
        due.is("the new one is the least", Due.frozenBits(x), 1);
        Due.drive(x, "..B");
        due.is("of like ones the first", Due.frozenBits(x), 4);
    }

    private static void ownFrozenGoesFirst() {
        TroubleCodes x = new TroubleCodes();
        Due.plain(x, 1);
        Due.plain(x, 5);
        x.room(2);
        Due.drive(x, "BB");
        Due.drive(x, "GG");
        Due.drive(x, ".B");
        due.is("no other goes for a new one of the same check", Due.frozenBits(x), 3);
        TroubleCodes y = new TroubleCodes();
        for (int i = 0; i < 3; i++) Due.permanent(y, 0);
        Due.drive(y, "BBB");
        y.room(1);
        due.is("three in a room for one", Due.frozenBits(y), 7);
        Due.drive(y, "G");
        Due.drive(y, "B");
        due.is("its old one goes, its new one too", Due.frozenBits(y), 6);
    }

    private static void agedMakesRoomForLaterChecks() {
        for (int first = 0; first < 2; first++) {
            TroubleCodes x = new TroubleCodes();
            x.check(0, 0, 1, 1, first == 0 ? 2 : 9, 5, false);
            x.check(0, 0, 1, 1, first == 0 ? 9 : 2, 5, false);
            Due.plain(x, 1);
            x.room(2);
            if (first == 0) {
                Due.drive(x, "B.B");
                Due.drive(x, "G..");
                due.is("end", Due.drive(x, ".B."), 1);
                due.is("check 0 is gone ahead of the freezing for 1", Due.frozenBits(x), 0b110);
            } else {
                Due.drive(x, ".BB");
                Due.drive(x, ".G.");
                due.is("end", Due.drive(x, "B.."), 1);
                due.is("check 1 goes after the freezing for 0", Due.frozenBits(x), 0b001);
            }
        }
    }

    private static void roomSmaller() {
        TroubleCodes x = new TroubleCodes();
        int[] weights = {3, 1, 4, 1, 5, 9};
        for (int w : weights) Due.plain(x, w);
        Due.drive(x, "BBB.BB");
        Due.drive(x, "...B..");
        due.is("room 6", x.room(6), 8);
        due.is("all", Due.frozenBits(x), 0b111111);
        due.is("room 5", x.room(5), 6);
        due.is("the first frozen of weight 1", Due.frozenBits(x), 0b111101);
        due.is("room 2", x.room(2), 5);
        due.is("the heaviest stay", Due.frozenBits(x), 0b110000);
        due.is("room 7", x.room(7), 2);
        due.is("none comes again", Due.frozenBits(x), 0b110000);
        due.is("codes stay", x.count(3), 6);
    }

    private static void roomPermanentStay() {
        TroubleCodes x = new TroubleCodes();
        Due.permanent(x, 0);
        Due.plain(x, 9);
        Due.permanent(x, 0);
        Due.plain(x, 8);
        Due.drive(x, "BBBB");
        due.is("room 3", x.room(3), 8);
        due.is("a plain one goes", Due.frozenBits(x), 0b0111);
        due.is("room 1", x.room(1), 3);
        due.is("permanent ones stay", Due.frozenBits(x), 0b0101);
        Due.drive(x, "...G");
        Due.drive(x, "...B");
        due.is("no room for a new one", Due.frozenBits(x), 0b0101);
        due.is("room", x.room(3), 1);
        Due.drive(x, "...G");
        Due.drive(x, "...B");
        due.is("room again", Due.frozenBits(x), 0b1101);
    }
}
