/** The trouble codes of one machine: its checks, what was frozen for them, and the causes behind them. */
public final class TroubleCodes {
    public static final int NONE = -1, BAD = -2, NO = -3, FULL = -4;

    private static final int NO_FACT = -2000;
    private static final int MAX_CHECKS = 16;
    private static final int FACTS = 4, MAX_FACT = 1000;
    private static final int MAX_ROOM = 8;
    private static final int ABOUTS = 8, COUNTS = 8;

    private final Check[] checks = new Check[MAX_CHECKS];
    private int checkCount = 0;
    private final int[] facts = new int[FACTS];
    private int roomFor = MAX_ROOM;
    private int freezings = 0;
    private int drivesEnded = 0;
    private boolean driving = false;
    private int troubledAtBegin = 0;
    private final Workshop workshop = new Workshop();

    public TroubleCodes() {
    }

    public int check(int sort, int follows, int bad, int good, int age, int weight, boolean lamp) {
        if (!isWithin(sort, Check.PLAIN, Check.FOLLOWING)) return BAD;
        if (sort == Check.FOLLOWING && checkAt(follows) == null) return BAD;
        if (!isWithin(bad, 1, 9) || !isWithin(good, 1, 9)) return BAD;
        if (!isWithin(age, 1, 90) || !isWithin(weight, 0, 9)) return BAD;
        if (driving) return NO;
        if (checkCount >= MAX_CHECKS) return FULL;
        checks[checkCount] = new Check(sort, follows, bad, good, age, weight, lamp);
        checkCount++;
        return checkCount - 1;
    }

    public int begin() {
        if (driving) return NO;
        driving = true;
        troubledAtBegin = troubledBits();
        return drivesEnded;
    }

    public int ran(int check, boolean bad) {
        Check one = checkAt(check);
        if (one == null) return BAD;
        if (!driving) return NO;
        one.tell(bad);
        return 1;
    }

    public int end() {
        if (!driving) return NO;
        int becameSet = 0;
        for (int n = 0; n < checkCount; n++) {
            Check one = checkAt(n);
            if (one != null && endFor(one)) becameSet++;
        }
        driving = false;
        drivesEnded++;
        return becameSet;
    }

    public int fact(int i, int v) {
        if (!isWithin(i, 0, FACTS - 1) || !isWithin(v, -MAX_FACT, MAX_FACT)) return NO_FACT;
        int was = facts[i];
        facts[i] = v;
        return was;
    }

    public int room(int r) {
        if (!isWithin(r, 1, MAX_ROOM)) return BAD;
        int was = roomFor;
        roomFor = r;
        for (int over = frozenCount() - r; over > 0; over--) {
            Check least = leastFrozen();
            if (least == null) break;
            least.thaw();
        }
        return was;
    }

    public int about(int check, int what) {
        Check one = checkAt(check);
        if (one == null || !isWithin(what, 0, ABOUTS - 1)) return BAD;
        return what == 4 ? asNumber(isHeldBack(one)) : one.numberOf(what);
    }

    public int frozen(int check, int i) {
        Check one = checkAt(check);
        if (one == null || !isWithin(i, 0, FACTS - 1) || !one.isFrozen()) return NO_FACT;
        return one.frozenFacts[i];
    }

    public int frozenAt(int check) {
        Check one = checkAt(check);
        return one == null ? BAD : one.frozenDrive;
    }

    public int lamp() {
        for (int n = 0; n < checkCount; n++) {
            Check one = checkAt(n);
            if (one != null && one.lamp && one.code == Check.SET) return 1;
        }
        return 0;
    }

    public int clear() {
        if (driving) return NO;
        int becameNone = 0;
        for (int n = 0; n < checkCount; n++) {
            Check one = checkAt(n);
            if (one != null && one.clearCode()) becameNone++;
        }
        return becameNone;
    }

    public int cause(int checks, int price) {
        if (checks == 0 || !isBitsBelow(checks, checkCount)) return BAD;
        if (!isWithin(price, 1, 1000)) return BAD;
        return workshop.addCause(checks, price);
    }

    public int explains(int set) {
        if (!isBitsBelow(set, workshop.causeCount)) return BAD;
        return asNumber(workshop.isExplainedBy(set, ranBits(), codeBits(Check.SET)));
    }

    public int least() {
        lookAtCodes();
        return workshop.leastCount;
    }

    public int leastAt(int i) {
        lookAtCodes();
        return isWithin(i, 0, workshop.leastCount - 1) ? workshop.least[i] : NONE;
    }

    public int plan() {
        lookAtCodes();
        return workshop.planSum();
    }

    public int test() {
        lookAtCodes();
        return workshop.planTest();
    }

    public int foretells(int other, int check) {
        Check one = checkAt(check);
        return one == null || checkAt(other) == null ? BAD : one.foretoldBy[other];
    }

    public int sets(int check) {
        Check one = checkAt(check);
        return one == null ? BAD : one.setDrives;
    }

    public int count(int what) {
        switch (what) {
            case 0: return checkCount;
            case 1: return drivesEnded;
            case 2: return Integer.bitCount(codeBits(Check.PENDING));
            case 3: return Integer.bitCount(codeBits(Check.SET));
            case 4: return Integer.bitCount(codeBits(Check.HEALED));
            case 5: return frozenCount();
            case 6: return workshop.causeCount;
            case 7: return asNumber(driving);
            default: return BAD;
        }
    }

    public long digest() {
        long h = 211;
        for (int what = 0; what < COUNTS; what++) h = 31 * h + count(what);
        for (int n = 0; n < checkCount; n++) h = digestOfCheck(h, n);
        for (int i = 0; i < FACTS; i++) h = 31 * h + facts[i];
        return workshop.digestFrom(h);
    }

    private long digestOfCheck(long before, int n) {
        long h = before;
        for (int what = 0; what < ABOUTS; what++) h = 31 * h + about(n, what);
        h = 31 * h + frozenAt(n);
        for (int i = 0; i < FACTS; i++) h = 31 * h + frozen(n, i);
        return 31 * h + sets(n);
    }

    private static boolean isWithin(int number, int from, int to) {
        return number >= from && number <= to;
    }

    /** Whether all bits are of numbers 0 .. count - 1; count is 16 at most. */
    private static boolean isBitsBelow(int bits, int count) {
        return (bits & -(1 << count)) == 0;
    }

    private static int asNumber(boolean yes) {
        return yes ? 1 : 0;
    }

    private Check checkAt(int n) {
        return isWithin(n, 0, checkCount - 1) ? checks[n] : null;
    }

    private boolean isHeldBack(Check one) {
        if (one.sort != Check.FOLLOWING) return false;
        Check followed = checkAt(one.follows);
        return followed != null && followed.isTroubled();
    }

    /** Ends the drive for one check; whether its code became set. */
    private boolean endFor(Check one) {
        boolean becameSet = one.countDrive(isHeldBack(one));
        if (becameSet) {
            one.noteSet(troubledAtBegin);
            freeze(one);
        }
        return becameSet;
    }

    private void freeze(Check one) {
        // The new one counts as the last, even if older facts were frozen for its check.
        one.freeze(facts, drivesEnded, freezings);
        freezings++;
        if (frozenCount() <= roomFor) return;
        Check least = leastFrozen();
        if (least == null) least = one;
        least.thaw();
    }

    private int frozenCount() {
        int count = 0;
        for (int n = 0; n < checkCount; n++) {
            Check one = checkAt(n);
            if (one != null && one.isFrozen()) count++;
        }
        return count;
    }

    /** The check whose frozen facts go first when there is no room; null if all that are frozen stay. */
    private Check leastFrozen() {
        Check least = null;
        for (int n = 0; n < checkCount; n++) {
            Check one = checkAt(n);
            if (one == null || !one.isFrozen() || one.isPermanent()) continue;
            if (least == null || one.goesAheadOf(least)) least = one;
        }
        return least;
    }

    private int codeBits(int code) {
        int bits = 0;
        for (int n = 0; n < checkCount; n++) {
            Check one = checkAt(n);
            if (one != null && one.code == code) bits |= 1 << n;
        }
        return bits;
    }

    private int troubledBits() {
        return codeBits(Check.PENDING) | codeBits(Check.SET);
    }

    private int ranBits() {
        int bits = 0;
        for (int n = 0; n < checkCount; n++) {
            Check one = checkAt(n);
            if (one != null && one.ranSinceCleared) bits |= 1 << n;
        }
        return bits;
    }

    private void lookAtCodes() {
        workshop.look(ranBits(), codeBits(Check.SET));
    }

    /** One check of the machine: its settings, its code and counts, and the facts frozen for it. */
    private static final class Check {
        static final int PLAIN = 0, PERMANENT = 1, FOLLOWING = 2;
        static final int NO_CODE = 0, PENDING = 1, SET = 2, HEALED = 3;
        static final int NOT_RUN = 0, RUN_GOOD = 1, RUN_BAD = 2;

        final int sort, follows, badLimit, goodLimit, ageLimit, weight;
        final boolean lamp;
        int code = NO_CODE;
        int badCount = 0, goodCount = 0, age = 0;
        int told = NOT_RUN;
        boolean ranSinceCleared = false;
        int frozenDrive = NONE, frozenOrder = 0;
        final int[] frozenFacts = new int[FACTS];
        int setDrives = 0;
        final int[] foretoldBy = new int[MAX_CHECKS];

        Check(int sort, int follows, int bad, int good, int age, int weight, boolean lamp) {
            this.sort = sort;
            this.follows = follows;
            this.badLimit = bad;
            this.goodLimit = good;
            this.ageLimit = sort == PERMANENT ? 2 * age : age;
            this.weight = weight;
            this.lamp = lamp;
        }

        boolean isPermanent() {
            return sort == PERMANENT;
        }

        boolean isTroubled() {
            return code == PENDING || code == SET;
        }

        boolean isFrozen() {
            return frozenDrive != NONE;
        }

        /** All that about() tells but 4, which needs another check. */
        int numberOf(int what) {
            switch (what) {
                case 0: return code;
                case 1: return badCount;
                case 2: return goodCount;
                case 3: return age;
                case 5: return asNumber(isFrozen());
                case 6: return asNumber(ranSinceCleared);
                case 7: return sort;
                default: return BAD;
            }
        }

        void tell(boolean bad) {
            if (bad) told = RUN_BAD;
            else if (told == NOT_RUN) told = RUN_GOOD;
        }

        /** Counts the drive that ends; whether the code became set. */
        boolean countDrive(boolean heldBack) {
            boolean becameSet = false;
            if (told == RUN_BAD) becameSet = countBad(heldBack);
            else if (told == RUN_GOOD) countGood();
            if (code == HEALED && told != RUN_BAD) growOlder();
            if (told != NOT_RUN) ranSinceCleared = true;
            told = NOT_RUN;
            return becameSet;
        }

        private boolean countBad(boolean heldBack) {
            goodCount = 0;
            age = 0;
            badCount++;
            if (code == NO_CODE) code = PENDING;
            boolean due = code == HEALED || code == PENDING && badCount >= badLimit;
            if (!due || heldBack) return false;
            code = SET;
            return true;
        }

        private void countGood() {
            badCount = 0;
            goodCount++;
            if (code == PENDING && goodCount == 1) {
                code = NO_CODE;
            } else if (code == SET && goodCount == goodLimit) {
                code = HEALED;
                age = 0;
            }
        }

        private void growOlder() {
            age++;
            if (age < ageLimit) return;
            code = NO_CODE;
            thaw();
        }

        void noteSet(int troubledBits) {
            setDrives++;
            for (int other = 0; other < MAX_CHECKS; other++) {
                if ((troubledBits >> other & 1) != 0) foretoldBy[other]++;
            }
        }

        void freeze(int[] facts, int drive, int order) {
            System.arraycopy(facts, 0, frozenFacts, 0, FACTS);
            frozenDrive = drive;
            frozenOrder = order;
        }

        void thaw() {
            frozenDrive = NONE;
        }

        boolean goesAheadOf(Check other) {
            return weight < other.weight || weight == other.weight && frozenOrder < other.frozenOrder;
        }

        /** Cleared by a tool; whether a code became none. */
        boolean clearCode() {
            badCount = 0;
            goodCount = 0;
            age = 0;
            ranSinceCleared = false;
            if (isPermanent()) return false;
            boolean had = code != NO_CODE;
            code = NO_CODE;
            thaw();
            return had;
        }
    }

    /** The causes, the least sets of them that explain the codes, and the plan of tests that tells these apart. */
    private static final class Workshop {
        static final int MAX_CAUSES = 10, MAX_LEAST = 10;

        final int[] causeChecks = new int[MAX_CAUSES], prices = new int[MAX_CAUSES];
        int causeCount = 0;
        /** By set of causes: the checks that it makes bad. */
        final int[] madeBad = new int[1 << MAX_CAUSES];
        final int[] least = new int[MAX_LEAST];
        int leastCount = 0;
        /** By cause: those of the least, as bits, that hold it. */
        final int[] holders = new int[MAX_CAUSES];
        /** By those of the least, as bits, that may be left: the least sum for them. */
        final int[] sums = new int[1 << MAX_LEAST];
        int firstTest = NONE;
        // What the least and the plan were last made from: they are dear, so they are made anew only if it changed.
        int seenRan = 0, seenSet = 0, seenCauses = NONE;
        boolean planned = false;

        int addCause(int checks, int price) {
            if (causeCount >= MAX_CAUSES) return FULL;
            causeChecks[causeCount] = checks;
            prices[causeCount] = price;
            int without = 1 << causeCount;
            for (int set = 0; set < without; set++) madeBad[set + without] = madeBad[set] | checks;
            causeCount++;
            return causeCount - 1;
        }

        /** The set has bits of causes that are there alone. */
        boolean isExplainedBy(int set, int ranBits, int setBits) {
            return (madeBad[set] & ranBits) == (setBits & ranBits);
        }

        void look(int ranBits, int setBits) {
            if (ranBits == seenRan && setBits == seenSet && causeCount == seenCauses) return;
            seenRan = ranBits;
            seenSet = setBits;
            seenCauses = causeCount;
            planned = false;
            findLeast();
        }

        private void findLeast() {
            leastCount = 0;
            int fewest = MAX_CAUSES;
            for (int set = 0; set < 1 << causeCount; set++) {
                int size = Integer.bitCount(set);
                if (size > fewest || !isExplainedBy(set, seenRan, seenSet)) continue;
                if (size < fewest) leastCount = 0;
                fewest = size;
                if (leastCount < MAX_LEAST) {
                    least[leastCount] = set;
                    leastCount++;
                }
            }
        }

        int planSum() {
            if (leastCount == 0) return NONE;
            makePlan();
            return sums[allLeast()];
        }

        int planTest() {
            if (leastCount == 0) return NONE;
            makePlan();
            return firstTest;
        }

        private int allLeast() {
            return (1 << leastCount) - 1;
        }

        private void makePlan() {
            if (planned) return;
            planned = true;
            for (int c = 0; c < causeCount; c++) holders[c] = holdersOf(c);
            // What a test leaves is a smaller number than what was left ahead of it, so its sum stands already.
            for (int left = 1; left <= allLeast(); left++) planFor(left);
        }

        private int holdersOf(int cause) {
            int bits = 0;
            for (int i = 0; i < leastCount; i++) bits |= (least[i] >> cause & 1) << i;
            return bits;
        }

        /** Finds the sum for those left, and the first test for them, which stands at last for all of the least. */
        private void planFor(int left) {
            firstTest = NONE;
            int best = 0;
            for (int c = 0; c < causeCount; c++) {
                int there = left & holders[c];
                if (there == 0 || there == left) continue;
                int sum = prices[c] * Integer.bitCount(left) + sums[there] + sums[left - there];
                if (firstTest != NONE && sum >= best) continue;
                best = sum;
                firstTest = c;
            }
            sums[left] = best;
        }

        long digestFrom(long before) {
            long h = before;
            for (int c = 0; c < causeCount; c++) {
                h = 31 * h + causeChecks[c];
                h = 31 * h + prices[c];
            }
            return h;
        }
    }
}
