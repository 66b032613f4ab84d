import java.util.ArrayList;
import java.util.List;

/** Counts answers that are not the ones that are due. */
final class Due {
    /** A boundary case that a test tries: the promise, the document's sentence that names it, and which edge of it. */
    record Edge(int promise, String sentence, String edge) {
        @Override
        public String toString() {
            return "Promise " + promise + ", \"" + sentence + "\", " + edge;
        }
    }

    final List<Edge> edges = new ArrayList<>();
    private int wrong = 0;
    private int asked = 0;
    private int askedAtEdge = 0;

    /** What is asked from here on is a test of this boundary case. */
    void edge(int promise, String sentence, String edge) {
        isAsked();
        edges.add(new Edge(promise, sentence, edge));
        askedAtEdge = asked;
    }

    private void isAsked() {
        if (edges.isEmpty() || asked > askedAtEdge) return;
        wrong++;
        System.out.println(lastEdge() + "nothing is asked");
    }

    private String lastEdge() {
        return edges.isEmpty() ? "" : edges.get(edges.size() - 1) + ": ";
    }

    void is(String call, long got, long want) {
        asked++;
        if (got == want) return;
        wrong++;
        System.out.println(lastEdge() + call + " answered " + got + ", due is " + want);
    }

    /** The answer is due, and the object is as it was. */
    void refused(String call, TroubleCodes x, long digestBefore, long got, long want) {
        is(call, got, want);
        is("digest after " + call, x.digest(), digestBefore);
    }

    void finish() {
        isAsked();
        System.out.println(wrong + " of " + asked + " answers are not as due");
        if (wrong != 0 || asked == 0) System.exit(1);
    }

    /** One drive: letters by check number, B bad, G good, anything else not run; what end() answered. */
    static int drive(TroubleCodes x, String letters) {
        x.begin();
        for (int i = 0; i < letters.length(); i++) {
            if (letters.charAt(i) == 'B') x.ran(i, true);
            if (letters.charAt(i) == 'G') x.ran(i, false);
        }
        return x.end();
    }

    /** So many drives alike. */
    static void drives(TroubleCodes x, int many, String letters) {
        for (int i = 0; i < many; i++) drive(x, letters);
    }

    /** Code, bad count, good count and age of a check as one number of four parts. */
    static long state(TroubleCodes x, int check) {
        return ((x.about(check, 0) * 100L + x.about(check, 1)) * 100L + x.about(check, 2)) * 1000L + x.about(check, 3);
    }

    static long state(int code, int bad, int good, int age) {
        return ((code * 100L + bad) * 100L + good) * 1000L + age;
    }

    /** Which checks have frozen facts, as bits. */
    static int frozenBits(TroubleCodes x) {
        int bits = 0;
        for (int c = 0; c < x.count(0); c++) bits |= x.about(c, 5) << c;
        return bits;
    }

    /** A plain check that is set by one bad drive and healed by one good one. */
    static int plain(TroubleCodes x, int weight) {
        return x.check(0, 0, 1, 1, 90, weight, false);
    }

    static int permanent(TroubleCodes x, int weight) {
        return x.check(1, 0, 1, 1, 90, weight, false);
    }

    static int following(TroubleCodes x, int follows) {
        return x.check(2, follows, 1, 1, 90, 0, false);
    }

    /** An object with so many plain checks. */
    static TroubleCodes plains(int many) {
        TroubleCodes x = new TroubleCodes();
        for (int i = 0; i < many; i++) plain(x, 0);
        return x;
    }
}
