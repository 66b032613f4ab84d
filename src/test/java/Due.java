/** Counts answers that are not the ones that are due. */
final class Due {
    private int wrong = 0;
    private int asked = 0;

    void is(String call, long got, long want) {
        asked++;
        if (got == want) return;
        wrong++;
        System.out.println(call + " answered " + got + ", due is " + want);
    }

    /** The answer is due, and the object is as it was. */
    void refused(String call, TroubleCodes x, long digestBefore, long got, long want) {
        is(call, got, want);
        is("digest after " + call, x.digest(), digestBefore);
    }

    void finish() {
        System.out.println(wrong + " of " + asked + " answers are not as due");
        if (wrong != 0 || asked == 0) System.exit(1);
    }

    /** One drive: letters by check number, B bad, G good, anything else not run; what end() answered. */
    static int drive(TroubleCodes x, String letters) {
        x.begin();
        for (int i = 0; i < letters.length(); i++) {
            if (letters.charAt(i) == 'B') x.ran(i, true);
            if (letters.charAt(i) == 'G') x.ran(i, false);
        }
        return x.end();
    }

    /** Code, bad count, good count and age of a check as one number of four parts. */
    static long state(TroubleCodes x, int check) {
        return ((x.about(check, 0) * 100L + x.about(check, 1)) * 100L + x.about(check, 2)) * 1000L + x.about(check, 3);
    }

    static long state(int code, int bad, int good, int age) {
        return ((code * 100L + bad) * 100L + good) * 1000L + age;
    }

    /** A plain check that is set by one bad drive and healed by one good one. */
    static int plain(TroubleCodes x, int weight) {
        return x.check(0, 0, 1, 1, 90, weight, false);
    }

    static int permanent(TroubleCodes x, int weight) {
        return x.check(1, 0, 1, 1, 90, weight, false);
    }
}
