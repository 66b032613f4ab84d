/** Boundary cases of promises 6, 7, 9 and 10: facts, room, what is frozen and when. */
final class EdgesOfFacts {
    private static final int LEAST = Integer.MIN_VALUE, MOST = Integer.MAX_VALUE;
    private static final String FACT = "FACT i (0 .. 3) is v: what it was. BAD: -2000.";
    private static final String BECOMES_SET =
        "As a CODE becomes SET that was not, they are FROZEN for it as they are (what was FROZEN for it goes first).";
    private static final String ROOM_IS = "ROOM is for r (1 .. 8; 8 at first) FROZEN ones";
    private static final String MORE = "if there are more, the new one with them as the last, the least goes";
    private static final String THE_LEAST =
        "of those of CHECKS that are not PERMANENT that with the least WEIGHT, of like ones that FROZEN first";
    private static final String ROOM =
        "ROOM: what it was; the least go, one by one, as long as there are more (PERMANENT ones stay). BAD.";
    private static final String FROZEN = "FACT i FROZEN for a CHECK. BAD, none: -2000.";
    private static final String FROZEN_AT = "The DRIVE in which they were. NONE: none. BAD.";

    private final Due due;

    EdgesOfFacts(Due due) {
        this.due = due;
    }

    void run() {
        factNumbers();
        factValues();
        factWas();
        factRefusedChangesNothing();
        frozenAsSet();
        frozenAsTheyAre();
        frozenFirst();
        roomNumbers();
        roomAtFirst();
        roomFullAndMore();
        newOneIsTheLast();
        leastWeight();
        firstFrozen();
        notPermanent();
        allPermanent();
        codesStay();
        roomWas();
        roomOneByOne();
        roomPermanent();
        roomLarger();
        frozenRefused();
        frozenAtDrives();
        frozenAtRefused();
    }

    private void factNumbers() {
        due.edge(6, FACT, "i too small");
        for (int i : new int[] {-1, LEAST}) due.is("fact(" + i + ", 0)", new TroubleCodes().fact(i, 0), -2000);
        due.edge(6, FACT, "i too large");
        for (int i : new int[] {4, MOST}) due.is("fact(" + i + ", 0)", new TroubleCodes().fact(i, 0), -2000);
        due.edge(6, FACT, "the first and the last are two");
        TroubleCodes x = new TroubleCodes();
        due.is("fact(0, 1)", x.fact(0, 1), 0);
        due.is("fact(3, 4)", x.fact(3, 4), 0);
        due.is("fact(0, 0)", x.fact(0, 0), 1);
        due.is("fact(3, 0)", x.fact(3, 0), 4);
    }

    private void factValues() {
        String sentence = "FACTS are 4 numbers (-1000 .. 1000), told as they change.";
        TroubleCodes x = new TroubleCodes();
        due.edge(6, sentence, "v too small");
        for (int v : new int[] {-1001, -2000, LEAST}) due.is("fact(0, " + v + ")", x.fact(0, v), -2000);
        due.edge(6, sentence, "v too large");
        for (int v : new int[] {1001, MOST}) due.is("fact(3, " + v + ")", x.fact(3, v), -2000);
        due.edge(6, sentence, "the least and the most");
        due.is("fact(0, -1000)", x.fact(0, -1000), 0);
        due.is("fact(0, 1000)", x.fact(0, 1000), -1000);
        due.is("fact(0, 0)", x.fact(0, 0), 1000);
        due.edge(6, sentence, "in a drive");
        x.begin();
        due.is("fact(3, 1)", x.fact(3, 1), 0);
        due.is("fact(3, 1), the same again", x.fact(3, 1), 1);
    }

    private void factWas() {
        due.edge(6, FACT, "what was frozen is not what it was");
        TroubleCodes x = Due.plains(1);
        x.fact(1, 5);
        Due.drive(x, "B");
        due.is("fact(1, 6)", x.fact(1, 6), 5);
        due.is("frozen(0, 1)", x.frozen(0, 1), 5);
        due.is("fact(1, 7)", x.fact(1, 7), 6);
        due.edge(6, FACT, "it stays as codes are cleared");
        x.clear();
        due.is("fact(1, 7)", x.fact(1, 7), 7);
    }

    private void factRefusedChangesNothing() {
        due.edge(6, "Refused, changing nothing", "fact");
        TroubleCodes x = new TroubleCodes();
        for (int i = 0; i < 4; i++) x.fact(i, 10 + i);
        long d = x.digest();
        int[][] wrong = {{-1, 1}, {4, 1}, {0, -1001}, {3, 1001}, {-1, -1001}, {MOST, MOST}, {LEAST, LEAST}};
        for (int[] w : wrong) due.refused("fact(" + w[0] + ", " + w[1] + ")", x, d, x.fact(w[0], w[1]), -2000);
    }

    private void frozenAsSet() {
        due.edge(9, BECOMES_SET, "none, pending, healed by good drives: nothing new");
        TroubleCodes x = new TroubleCodes();
        x.check(0, 0, 2, 2, 9, 0, false);
        x.fact(0, 1);
        Due.drive(x, "G");
        due.is("none", x.frozen(0, 0), -2000);
        Due.drive(x, "B");
        due.is("pending", x.frozen(0, 0), -2000);
        x.fact(0, 2);
        Due.drive(x, "B");
        due.is("set", x.frozen(0, 0), 2);
        x.fact(0, 3);
        Due.drives(x, 2, "G");
        due.is("healed", x.frozen(0, 0), 2);
        due.edge(9, BECOMES_SET, "one that was set already");
        TroubleCodes y = Due.plains(1);
        y.fact(0, 1);
        Due.drive(y, "B");
        y.fact(0, 2);
        Due.drive(y, "B");
        due.is("set still", y.frozen(0, 0), 1);
        due.edge(9, BECOMES_SET, "one that was healed");
        Due.drive(y, "G");
        y.fact(0, 3);
        Due.drive(y, "B");
        due.is("set again", y.frozen(0, 0), 3);
        due.edge(9, BECOMES_SET, "healed, bad, held back: it did not become set");
        TroubleCodes z = Due.plains(1);
        Due.following(z, 0);
        Due.drive(z, ".B");
        Due.drive(z, ".G");
        z.fact(0, 4);
        Due.drive(z, "BB");
        due.is("healed", z.frozen(1, 0), 0);
        due.is("the other", z.frozen(0, 0), 4);
    }

    private void frozenAsTheyAre() {
        due.edge(9, "they are FROZEN for it as they are", "told in the drive, after it");
        TroubleCodes x = Due.plains(1);
        x.fact(0, 1);
        x.begin();
        x.fact(0, 2);
        x.ran(0, true);
        x.fact(0, -1000);
        x.fact(3, 1000);
        x.end();
        x.fact(0, 4);
        x.fact(3, 4);
        int[] want = {-1000, 0, 0, 1000};
        for (int i = 0; i < 4; i++) due.is("frozen(0, " + i + ")", x.frozen(0, i), want[i]);
        due.edge(9, "they are FROZEN for it as they are", "each check its own");
        TroubleCodes y = Due.plains(2);
        y.fact(0, 1);
        Due.drive(y, "B");
        y.fact(0, 2);
        Due.drive(y, ".B");
        due.is("frozen(0, 0)", y.frozen(0, 0), 1);
        due.is("frozen(1, 0)", y.frozen(1, 0), 2);
    }

    private void frozenFirst() {
        due.edge(9, "(what was FROZEN for it goes first)", "the room is full: no other goes");
        TroubleCodes x = Due.plains(2);
        x.room(2);
        Due.drive(x, "BB");
        Due.drive(x, ".G");
        Due.drive(x, ".B");
        due.is("frozen", Due.frozenBits(x), 0b11);
        due.is("frozenAt(1)", x.frozenAt(1), 2);
        due.edge(9, "(what was FROZEN for it goes first)", "it is not of those that are as old as it was");
        x.check(0, 0, 1, 1, 9, 0, false);
        Due.drive(x, "G");
        Due.drive(x, "B");
        Due.drive(x, "..B");
        due.is("frozen", Due.frozenBits(x), 0b101);
        due.edge(9, "(what was FROZEN for it goes first)", "permanent, no room: neither is left");
        TroubleCodes y = new TroubleCodes();
        for (int i = 0; i < 2; i++) Due.permanent(y, 0);
        Due.drive(y, "BB");
        y.room(1);
        Due.drive(y, "G");
        due.is("frozen", Due.frozenBits(y), 0b11);
        due.is("end()", Due.drive(y, "B"), 1);
        due.is("the old one is gone, the new one goes too", Due.frozenBits(y), 0b10);
    }

    private void roomNumbers() {
        due.edge(7, ROOM_IS, "too small");
        TroubleCodes x = Due.plains(2);
        Due.drive(x, "BB");
        long d = x.digest();
        for (int r : new int[] {0, -1, LEAST}) due.refused("room(" + r + ")", x, d, x.room(r), -2);
        due.edge(7, ROOM_IS, "too large");
        for (int r : new int[] {9, 16, MOST}) due.refused("room(" + r + ")", x, d, x.room(r), -2);
        due.edge(7, ROOM_IS, "the room that was is not changed by a wrong one");
        due.is("room(8)", x.room(8), 8);
        due.edge(7, ROOM_IS, "1 and 8");
        due.is("room(1)", x.room(1), 8);
        due.is("room(8)", x.room(8), 1);
        due.is("room(8)", x.room(8), 8);
    }

    private void roomAtFirst() {
        due.edge(7, "8 at first", "8 are frozen, none goes");
        TroubleCodes x = Due.plains(9);
        Due.drive(x, "BBBBBBBB");
        due.is("frozen", Due.frozenBits(x), 0xff);
        due.edge(7, "8 at first", "the 9th");
        Due.drive(x, "........B");
        due.is("frozen", Due.frozenBits(x), 0x1fe);
        due.is("count(5)", x.count(5), 8);
    }

    private void roomFullAndMore() {
        for (int r = 1; r < 9; r++) {
            TroubleCodes x = Due.plains(r + 1);
            x.room(r);
            due.edge(7, MORE, "as many as room is for: " + r);
            Due.drive(x, "BBBBBBBB".substring(0, r));
            due.is("count(5)", x.count(5), r);
            due.is("frozenAt(0)", x.frozenAt(0), 0);
            due.edge(7, MORE, "one more than room is for: " + r);
            Due.drive(x, "........".substring(0, r) + "B");
            due.is("count(5)", x.count(5), r);
            due.is("frozenAt(0)", x.frozenAt(0), -1);
        }
        due.edge(7, MORE, "16 in one drive, by numbers");
        TroubleCodes y = Due.plains(16);
        y.room(3);
        Due.drive(y, "BBBBBBBBBBBBBBBB");
        due.is("frozen", Due.frozenBits(y), 0b111 << 13);
    }

    private void newOneIsTheLast() {
        due.edge(7, "the new one with them as the last", "of like weight: an older one goes");
        TroubleCodes x = Due.plains(2);
        x.room(1);
        Due.drive(x, ".B");
        Due.drive(x, "B.");
        due.is("frozen", Due.frozenBits(x), 0b01);
        due.edge(7, "the new one with them as the last", "of less weight: it goes itself");
        TroubleCodes y = new TroubleCodes();
        Due.plain(y, 1);
        Due.plain(y, 0);
        y.room(1);
        Due.drive(y, "B.");
        Due.drive(y, ".B");
        due.is("frozen", Due.frozenBits(y), 0b01);
        due.is("frozenAt(1)", y.frozenAt(1), -1);
    }

    private void leastWeight() {
        due.edge(7, THE_LEAST, "weights 0 and 9, one apart");
        TroubleCodes x = new TroubleCodes();
        for (int weight : new int[] {9, 1, 0, 8, 9}) Due.plain(x, weight);
        x.room(4);
        Due.drive(x, "BBBBB");
        due.is("weight 0", Due.frozenBits(x), 0b11011);
        x.room(3);
        due.is("weight 1", Due.frozenBits(x), 0b11001);
        x.room(2);
        due.is("weight 8", Due.frozenBits(x), 0b10001);
        x.room(1);
        due.is("weight 9, the first", Due.frozenBits(x), 0b10000);
        due.edge(7, THE_LEAST, "less weight, though frozen last");
        TroubleCodes y = new TroubleCodes();
        for (int weight : new int[] {5, 5, 4}) Due.plain(y, weight);
        Due.drive(y, "B");
        Due.drive(y, ".B");
        Due.drive(y, "..B");
        y.room(2);
        due.is("frozen", Due.frozenBits(y), 0b011);
    }

    private void firstFrozen() {
        due.edge(7, "of like ones that FROZEN first", "by drives, not by numbers");
        TroubleCodes x = Due.plains(4);
        x.room(3);
        Due.drive(x, "..B");
        Due.drive(x, "B");
        Due.drive(x, ".B");
        Due.drive(x, "...B");
        due.is("frozen", Due.frozenBits(x), 0b1011);
        due.edge(7, "of like ones that FROZEN first", "in one drive by numbers");
        TroubleCodes y = Due.plains(3);
        Due.drive(y, "BBB");
        y.room(2);
        due.is("frozen", Due.frozenBits(y), 0b110);
        due.edge(7, "of like ones that FROZEN first", "frozen anew is frozen last");
        TroubleCodes z = Due.plains(3);
        Due.drive(z, "BBB");
        Due.drive(z, "G");
        Due.drive(z, "B");
        z.room(1);
        due.is("frozen", Due.frozenBits(z), 0b001);
        due.edge(7, "of like ones that FROZEN first", "one that went and was frozen anew");
        TroubleCodes w = Due.plains(3);
        w.room(2);
        Due.drive(w, "BBB");
        due.is("frozen", Due.frozenBits(w), 0b110);
        Due.drive(w, "G");
        Due.drive(w, "B");
        due.is("frozen", Due.frozenBits(w), 0b101);
    }

    private void notPermanent() {
        due.edge(7, THE_LEAST, "a permanent one of less weight, frozen first, stays");
        TroubleCodes x = new TroubleCodes();
        Due.permanent(x, 0);
        Due.plain(x, 9);
        Due.plain(x, 9);
        x.room(2);
        Due.drive(x, "BBB");
        due.is("frozen", Due.frozenBits(x), 0b101);
        due.edge(7, THE_LEAST, "a following one is not permanent");
        TroubleCodes y = new TroubleCodes();
        Due.permanent(y, 0);
        y.check(2, 0, 1, 1, 9, 9, false);
        y.room(1);
        Due.drive(y, ".B");
        Due.drive(y, "B.");
        due.is("frozen", Due.frozenBits(y), 0b01);
    }

    private void allPermanent() {
        due.edge(7, "if all are PERMANENT the new one goes", "a new permanent one");
        TroubleCodes x = new TroubleCodes();
        for (int weight : new int[] {0, 9}) Due.permanent(x, weight);
        Due.plain(x, 9);
        x.room(1);
        Due.drive(x, "B.");
        due.is("end()", Due.drive(x, ".B"), 1);
        due.is("frozen", Due.frozenBits(x), 0b001);
        due.edge(7, "if all are PERMANENT the new one goes", "a new plain one is the only one that is not");
        due.is("end()", Due.drive(x, "..B"), 1);
        due.is("frozen", Due.frozenBits(x), 0b001);
        due.is("frozenAt(0)", x.frozenAt(0), 0);
        due.edge(7, "if all are PERMANENT the new one goes", "eight of them at first");
        TroubleCodes y = new TroubleCodes();
        for (int i = 0; i < 10; i++) Due.permanent(y, i);
        Due.drive(y, "BBBBBBBBBB");
        due.is("frozen", Due.frozenBits(y), 0xff);
    }

    private void codesStay() {
        due.edge(7, "(CODES stay.)", "of one that goes for a new one");
        TroubleCodes x = Due.plains(2);
        x.room(1);
        Due.drive(x, "BB");
        due.is("frozenAt(0)", x.frozenAt(0), -1);
        due.is("code", x.about(0, 0), 2);
        due.edge(7, "(CODES stay.)", "of a new one that goes");
        TroubleCodes y = new TroubleCodes();
        Due.plain(y, 1);
        Due.plain(y, 0);
        y.room(1);
        due.is("end()", Due.drive(y, "BB"), 2);
        due.is("frozenAt(1)", y.frozenAt(1), -1);
        due.is("state", Due.state(y, 1), Due.state(2, 1, 0, 0));
        due.is("sets(1)", y.sets(1), 1);
        due.edge(7, "(CODES stay.)", "of one that goes as room is less");
        TroubleCodes z = Due.plains(2);
        Due.drive(z, "BB");
        z.room(1);
        due.is("count(3)", z.count(3), 2);
    }

    private void roomWas() {
        due.edge(7, ROOM, "what it was, each of 1 to 8, in a drive too");
        TroubleCodes x = new TroubleCodes();
        int was = 8;
        for (int r = 1; r < 9; r++) {
            if (r == 5) x.begin();
            due.is("room(" + r + ")", x.room(r), was);
            was = r;
        }
        due.edge(7, ROOM, "it stays as codes are cleared");
        TroubleCodes y = Due.plains(1);
        y.room(2);
        y.clear();
        due.is("room(2)", y.room(2), 2);
    }

    private void roomOneByOne() {
        due.edge(7, ROOM, "none goes at as many as are frozen");
        TroubleCodes x = Due.plains(8);
        Due.drive(x, "BBBBBBBB");
        x.room(8);
        due.is("frozen", Due.frozenBits(x), 0xff);
        due.edge(7, ROOM, "one goes at one less");
        x.room(7);
        due.is("frozen", Due.frozenBits(x), 0xfe);
        due.edge(7, ROOM, "all but one go at 1");
        x.room(1);
        due.is("frozen", Due.frozenBits(x), 0x80);
        due.edge(7, ROOM, "nothing frozen");
        TroubleCodes y = Due.plains(1);
        due.is("room(1)", y.room(1), 8);
        due.is("count(5)", y.count(5), 0);
        due.edge(7, ROOM, "in a drive, ahead of what is frozen at its end");
        TroubleCodes z = Due.plains(3);
        Due.drive(z, "BB");
        z.begin();
        z.ran(2, true);
        z.room(1);
        due.is("frozen", Due.frozenBits(z), 0b010);
        z.end();
        due.is("frozen", Due.frozenBits(z), 0b100);
    }

    private void roomPermanent() {
        due.edge(7, "(PERMANENT ones stay)", "more of them than room is for");
        TroubleCodes x = new TroubleCodes();
        Due.permanent(x, 0);
        Due.plain(x, 9);
        Due.permanent(x, 0);
        Due.following(x, 0);
        Due.drive(x, ".BBB");
        Due.drive(x, "B...");
        due.is("frozen", Due.frozenBits(x), 0b1111);
        due.is("room(1)", x.room(1), 8);
        due.is("frozen", Due.frozenBits(x), 0b0101);
        due.edge(7, "(PERMANENT ones stay)", "as many of them as room is for");
        due.is("room(2)", x.room(2), 1);
        due.is("frozen", Due.frozenBits(x), 0b0101);
        due.edge(7, "(PERMANENT ones stay)", "one fewer of them than room is for: a plain one stays");
        TroubleCodes y = new TroubleCodes();
        Due.permanent(y, 0);
        Due.plain(y, 0);
        Due.plain(y, 9);
        Due.drive(y, "BBB");
        y.room(2);
        due.is("frozen", Due.frozenBits(y), 0b101);
    }

    private void roomLarger() {
        due.edge(7, ROOM, "more room brings none again");
        TroubleCodes x = Due.plains(3);
        x.room(1);
        Due.drive(x, "BBB");
        x.room(8);
        due.is("frozen", Due.frozenBits(x), 0b100);
        due.edge(7, ROOM, "more room for the next ones");
        Due.drive(x, "GG");
        Due.drive(x, "BB");
        due.is("frozen", Due.frozenBits(x), 0b111);
    }

    private void frozenRefused() {
        TroubleCodes x = Due.plains(2);
        due.edge(9, FROZEN, "none");
        due.is("frozen(0, 0)", x.frozen(0, 0), -2000);
        Due.drive(x, "B");
        due.is("frozen(1, 0)", x.frozen(1, 0), -2000);
        due.is("frozen(0, 0)", x.frozen(0, 0), 0);
        due.edge(9, FROZEN, "a check that is not there");
        for (int c : new int[] {-1, 2, 15, 16, LEAST, MOST}) due.is("frozen(" + c + ", 0)", x.frozen(c, 0), -2000);
        due.edge(9, FROZEN, "i too small");
        for (int i : new int[] {-1, LEAST}) due.is("frozen(0, " + i + ")", x.frozen(0, i), -2000);
        due.edge(9, FROZEN, "i too large");
        for (int i : new int[] {4, MOST}) due.is("frozen(0, " + i + ")", x.frozen(0, i), -2000);
        due.edge(9, FROZEN, "the last check, its first and last fact");
        TroubleCodes y = Due.plains(16);
        y.fact(0, 1);
        y.fact(3, 4);
        Due.drive(y, "...............B");
        due.is("frozen(15, 0)", y.frozen(15, 0), 1);
        due.is("frozen(15, 3)", y.frozen(15, 3), 4);
        due.is("frozen(16, 0)", y.frozen(16, 0), -2000);
    }

    private void frozenAtDrives() {
        due.edge(10, FROZEN_AT, "the first drive");
        TroubleCodes x = Due.plains(2);
        Due.drive(x, "B");
        due.is("frozenAt(0)", x.frozenAt(0), 0);
        due.edge(10, FROZEN_AT, "the drive's own number, as begin() told it");
        Due.drives(x, 150, "");
        x.begin();
        x.ran(1, true);
        due.is("frozenAt(1), it goes", x.frozenAt(1), -1);
        x.end();
        due.is("frozenAt(1)", x.frozenAt(1), 151);
        due.is("frozenAt(0)", x.frozenAt(0), 0);
        due.edge(10, FROZEN_AT, "frozen anew");
        Due.drive(x, "G");
        Due.drive(x, "B");
        due.is("frozenAt(0)", x.frozenAt(0), 153);
    }

    private void frozenAtRefused() {
        due.edge(10, FROZEN_AT, "none");
        TroubleCodes x = Due.plains(16);
        due.is("frozenAt(0)", x.frozenAt(0), -1);
        due.is("frozenAt(15)", x.frozenAt(15), -1);
        due.edge(10, FROZEN_AT, "a check that is not there");
        for (int c : new int[] {-1, 16, LEAST, MOST}) due.is("frozenAt(" + c + ")", x.frozenAt(c), -2);
        due.is("frozenAt(1) of one check", Due.plains(1).frozenAt(1), -2);
        due.is("frozenAt(0) of no checks", new TroubleCodes().frozenAt(0), -2);
    }
}
