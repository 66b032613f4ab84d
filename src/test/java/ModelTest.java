import java.util.ArrayList;
import java.util.HashMap;
import java.util.List;
import java.util.Map;
import java.util.TreeSet;

/**
 * All promises at once: long runs of calls, told by a plain row of numbers, on the program and on a slow model
 * that is written from the document's words in another way (lists, trees, a search that remembers).
 */
public final class ModelTest {
    private static final int RUNS = 3000, CALLS = 512;

    public static void main(String[] args) {
        Due due = new Due();
        long[] met = new long[32];
        for (int run = 0; run < RUNS; run++) new Run(run, due, met).go();
        // A run of calls that never meets a case tests nothing of it.
        String[] cases = {"set", "healed", "aged away", "held back", "went for room", "no least", "two or more least",
            "ten least", "plan above 0", "foretold", "cleared with codes", "frozen anew"};
        for (int i = 0; i < cases.length; i++) {
            if (met[i] < 100) due.is("met: " + cases[i], met[i], 100);
        }
        due.finish();
    }

    /** A row of numbers made by one rule, the same each time. */
    private static final class Row {
        private long now;

        Row(long seed) {
            now = seed * 0x9E3779B97F4A7C15L + 12345;
        }

        int below(int n) {
            now = now * 6364136223846793005L + 1442695040888963407L;
            return (int) ((now >>> 33) % n);
        }

        /** Mostly from .. to, now and then just or far beyond. */
        int near(int from, int to) {
            int kind = below(40);
            if (kind == 0) return from - 1;
            if (kind == 1) return to + 1;
            if (kind == 2) return below(2) == 0 ? Integer.MAX_VALUE : Integer.MIN_VALUE;
            return from + below(to - from + 1);
        }
    }

    private static final class Run {
        private final Row row;
        private final Due due;
        private final int run;
        private final TroubleCodes x = new TroubleCodes();
        private final Model m;
        private final int maxChecks, badShare, ageMost;
        private final boolean manyCauses;

        Run(int run, Due due, long[] met) {
            this.run = run;
            this.due = due;
            row = new Row(run);
            m = new Model(met);
            maxChecks = 1 + row.below(18);
            badShare = 1 + row.below(9);
            ageMost = row.below(3) == 0 ? 90 : 3;
            manyCauses = row.below(2) == 0;
        }

        void go() {
            int calls = 0;
            while (calls < maxChecks) {
                calls++;
                check();
            }
            int causes = row.below(12);
            for (int i = 0; i < causes; i++) {
                calls++;
                cause();
            }
            while (calls < CALLS) {
                calls++;
                call();
            }
        }

        private void is(String call, long got, long want) {
            due.is("run " + run + ": " + call, got, want);
        }

        private void check() {
            int sort = row.near(0, 2), follows = row.near(0, Math.max(0, m.checks.size() - 1));
            int bad = row.near(1, row.below(2) == 0 ? 3 : 9), good = row.near(1, row.below(3) == 0 ? 9 : 2);
            int age = row.near(1, ageMost), weight = row.near(0, row.below(2) == 0 ? 2 : 9);
            boolean lamp = row.below(4) == 0;
            is("check", x.check(sort, follows, bad, good, age, weight, lamp), m.check(sort, follows, bad, good, age, weight, lamp));
        }

        private void cause() {
            int n = m.checks.size();
            int bits = row.near(1, Math.max(1, (1 << n) - 1));
            if (manyCauses) bits = 1 << row.below(Math.max(1, Math.min(n, 3)));
            int price = row.near(1, row.below(3) == 0 ? 1000 : 4);
            is("cause " + bits, x.cause(bits, price), m.cause(bits, price));
        }

        private void call() {
            int n = m.checks.size();
            int c = row.near(0, Math.max(0, n - 1)), other = row.near(0, Math.max(0, n - 1));
            switch (row.below(40)) {
                case 0: check(); break;
                case 1: cause(); break;
                case 2: case 3: case 4: case 5: is("begin", x.begin(), m.begin()); break;
                case 6: case 7: case 8: is("end", x.end(), m.end()); break;
                case 9: { int i = row.near(0, 3), v = row.near(-1000, 1000); is("fact", x.fact(i, v), m.fact(i, v)); break; }
                case 10: { int r = row.near(1, 8); is("room", x.room(r), m.room(r)); break; }
                case 11: { int w = row.near(0, 7); is("about " + w, x.about(c, w), m.about(c, w)); break; }
                case 12: { int i = row.near(0, 3); is("frozen", x.frozen(c, i), m.frozen(c, i)); break; }
                case 13: is("frozenAt", x.frozenAt(c), m.frozenAt(c)); break;
                case 14: is("lamp", x.lamp(), m.lamp()); break;
                case 15: if (row.below(4) == 0) is("clear", x.clear(), m.clear()); break;
                case 16: { int s = row.near(0, (1 << m.causes.size()) - 1); is("explains", x.explains(s), m.explains(s)); break; }
                case 17: is("least", x.least(), m.least()); break;
                case 18: { int i = row.near(0, 9); is("leastAt", x.leastAt(i), m.leastAt(i)); break; }
                case 19: is("plan", x.plan(), m.plan()); break;
                case 20: is("test", x.test(), m.test()); break;
                case 21: is("foretells", x.foretells(other, c), m.foretells(other, c)); break;
                case 22: is("sets", x.sets(c), m.sets(c)); break;
                case 23: { int w = row.near(0, 7); is("count " + w, x.count(w), m.count(w)); break; }
                case 24: case 25: is("digest", x.digest(), m.digest()); break;
                default: { boolean bad = row.below(10) < badShare; is("ran", x.ran(c, bad), m.ran(c, bad)); }
            }
        }
    }

    private static final class ModelCheck {
        int number, sort, follows, bad, good, age, weight;
        boolean lamp;
        String code = "NONE";
        int badNow, goodNow, ageNow;
        boolean toldBad, toldGood, ran;
        final List<Integer> setDrives = new ArrayList<>();
    }

    private static final class Ice {
        ModelCheck check;
        int drive;
        int[] facts;
    }

    private static final class Model {
        private static final List<String> CODES = List.of("NONE", "PENDING", "SET", "HEALED");
        private final long[] met;
        final List<ModelCheck> checks = new ArrayList<>();
        final List<int[]> causes = new ArrayList<>();
        private final int[] facts = new int[4];
        /** In the order in which they were frozen. */
        private final List<Ice> frozen = new ArrayList<>();
        /** By drive: the checks with pending or set codes as it began. */
        private final List<TreeSet<Integer>> troubled = new ArrayList<>();
        private int room = 8;
        private boolean driving;
        private int ended;

        Model(long[] met) {
            this.met = met;
        }

        private boolean has(int c) {
            return c >= 0 && c < checks.size();
        }

        int check(int sort, int follows, int bad, int good, int age, int weight, boolean lamp) {
            boolean told = sort >= 0 && sort <= 2 && bad >= 1 && bad <= 9 && good >= 1 && good <= 9 && age >= 1 && age <= 90
                && weight >= 0 && weight <= 9 && (sort != 2 || has(follows));
            if (!told) return -2;
            if (driving) return -3;
            if (checks.size() == 16) return -4;
            ModelCheck c = new ModelCheck();
            c.number = checks.size();
            c.sort = sort;
            c.follows = follows;
            c.bad = bad;
            c.good = good;
            c.age = age;
            c.weight = weight;
            c.lamp = lamp;
            checks.add(c);
            return c.number;
        }

        int begin() {
            if (driving) return -3;
            driving = true;
            TreeSet<Integer> now = new TreeSet<>();
            for (ModelCheck c : checks) if (c.code.equals("PENDING") || c.code.equals("SET")) now.add(c.number);
            troubled.add(now);
            return ended;
        }

        int ran(int check, boolean bad) {
            if (!has(check)) return -2;
            if (!driving) return -3;
            if (bad) checks.get(check).toldBad = true;
            else checks.get(check).toldGood = true;
            return 1;
        }

        private boolean heldBack(ModelCheck c) {
            if (c.sort != 2) return false;
            String code = checks.get(c.follows).code;
            return code.equals("PENDING") || code.equals("SET");
        }

        int end() {
            if (!driving) return -3;
            int count = 0;
            for (ModelCheck c : checks) {
                String was = c.code;
                if (c.toldBad) toldBad(c);
                else if (c.toldGood) toldGood(c);
                if (c.code.equals("HEALED") && !was.equals("HEALED")) met[1]++;
                if (c.code.equals("HEALED") && !c.toldBad) {
                    c.ageNow++;
                    if (c.ageNow == c.age * (c.sort == 1 ? 2 : 1)) {
                        c.code = "NONE";
                        met[2]++;
                        drop(c);
                    }
                }
                if (c.code.equals("SET") && !was.equals("SET")) {
                    count++;
                    becameSet(c);
                }
                c.ran |= c.toldBad || c.toldGood;
                c.toldBad = false;
                c.toldGood = false;
            }
            driving = false;
            ended++;
            return count;
        }

        private void toldBad(ModelCheck c) {
            c.goodNow = 0;
            c.ageNow = 0;
            c.badNow++;
            boolean wasHealed = c.code.equals("HEALED");
            if (c.code.equals("NONE")) c.code = "PENDING";
            if (c.badNow >= c.bad || wasHealed) {
                if (heldBack(c)) met[3]++;
                else c.code = "SET";
            }
        }

        private void toldGood(ModelCheck c) {
            c.badNow = 0;
            c.goodNow++;
            if (c.code.equals("PENDING") && c.goodNow == 1) c.code = "NONE";
            if (c.code.equals("SET") && c.goodNow == c.good) {
                c.code = "HEALED";
                c.ageNow = 0;
            }
        }

        private void drop(ModelCheck c) {
            frozen.removeIf(ice -> ice.check == c);
        }

        private void becameSet(ModelCheck c) {
            met[0]++;
            if (!troubled.get(ended).isEmpty()) met[9]++;
            c.setDrives.add(ended);
            int had = frozen.size();
            drop(c);
            if (frozen.size() < had) met[11]++;
            Ice ice = new Ice();
            ice.check = c;
            ice.drive = ended;
            ice.facts = facts.clone();
            frozen.add(ice);
            if (frozen.size() > room && !dropLeast()) frozen.remove(ice);
        }

        private boolean dropLeast() {
            for (int weight = 0; weight < 10; weight++) {
                for (Ice ice : frozen) {
                    if (ice.check.sort == 1 || ice.check.weight != weight) continue;
                    met[4]++;
                    frozen.remove(ice);
                    return true;
                }
            }
            return false;
        }

        int fact(int i, int v) {
            if (i < 0 || i > 3 || v < -1000 || v > 1000) return -2000;
            int was = facts[i];
            facts[i] = v;
            return was;
        }

        int room(int r) {
            if (r < 1 || r > 8) return -2;
            int was = room;
            room = r;
            while (frozen.size() > room && dropLeast()) was = was + 0;
            return was;
        }

        private Ice iceOf(int check) {
            for (Ice ice : frozen) if (ice.check.number == check) return ice;
            return null;
        }

        int about(int check, int what) {
            if (!has(check) || what < 0 || what > 7) return -2;
            ModelCheck c = checks.get(check);
            int[] all = {CODES.indexOf(c.code), c.badNow, c.goodNow, c.ageNow, heldBack(c) ? 1 : 0, iceOf(check) == null ? 0 : 1,
                c.ran ? 1 : 0, c.sort};
            return all[what];
        }

        int frozen(int check, int i) {
            if (!has(check) || i < 0 || i > 3 || iceOf(check) == null) return -2000;
            return iceOf(check).facts[i];
        }

        int frozenAt(int check) {
            if (!has(check)) return -2;
            return iceOf(check) == null ? -1 : iceOf(check).drive;
        }

        int lamp() {
            for (ModelCheck c : checks) if (c.lamp && c.code.equals("SET")) return 1;
            return 0;
        }

        int clear() {
            if (driving) return -3;
            int gone = 0;
            for (ModelCheck c : checks) {
                c.badNow = 0;
                c.goodNow = 0;
                c.ageNow = 0;
                c.ran = false;
                if (c.sort == 1) continue;
                if (!c.code.equals("NONE")) gone++;
                c.code = "NONE";
                drop(c);
            }
            if (gone > 0) met[10]++;
            return gone;
        }

        int cause(int bits, int price) {
            if (bits <= 0 || bits >= 1 << checks.size() || price < 1 || price > 1000) return -2;
            if (causes.size() == 10) return -4;
            causes.add(new int[] {bits, price});
            return causes.size() - 1;
        }

        int explains(int set) {
            if (set < 0 || set >= 1 << causes.size()) return -2;
            for (ModelCheck c : checks) {
                if (!c.ran) continue;
                boolean made = false;
                for (int i = 0; i < causes.size(); i++) made |= (set >> i & 1) == 1 && (causes.get(i)[0] >> c.number & 1) == 1;
                if (made != c.code.equals("SET")) return 0;
            }
            return 1;
        }

        private List<Integer> theLeast() {
            List<Integer> found = new ArrayList<>();
            for (int size = 0; size <= causes.size() && found.isEmpty(); size++) {
                for (int set = 0; set < 1 << causes.size() && found.size() < 10; set++) {
                    if (Integer.bitCount(set) == size && explains(set) == 1) found.add(set);
                }
            }
            return found;
        }

        int least() {
            int count = theLeast().size();
            if (count == 0) met[5]++;
            if (count > 1) met[6]++;
            if (count == 10) met[7]++;
            return count;
        }

        int leastAt(int i) {
            List<Integer> all = theLeast();
            return i < 0 || i >= all.size() ? -1 : all.get(i);
        }

        private int sumFor(List<Integer> left, Map<List<Integer>, Integer> known) {
            if (left.size() == 1) return 0;
            Integer old = known.get(left);
            if (old != null) return old;
            int best = Integer.MAX_VALUE;
            for (int c = 0; c < causes.size(); c++) best = Math.min(best, sumBy(left, c, known));
            known.put(left, best);
            return best;
        }

        private int sumBy(List<Integer> left, int cause, Map<List<Integer>, Integer> known) {
            List<Integer> there = new ArrayList<>(), away = new ArrayList<>();
            for (int set : left) ((set >> cause & 1) == 1 ? there : away).add(set);
            if (there.isEmpty() || away.isEmpty()) return Integer.MAX_VALUE;
            return left.size() * causes.get(cause)[1] + sumFor(there, known) + sumFor(away, known);
        }

        int plan() {
            List<Integer> all = theLeast();
            if (all.isEmpty()) return -1;
            int sum = sumFor(all, new HashMap<>());
            if (sum > 0) met[8]++;
            return sum;
        }

        int test() {
            List<Integer> all = theLeast();
            if (all.size() < 2) return -1;
            Map<List<Integer>, Integer> known = new HashMap<>();
            int sum = sumFor(all, known);
            for (int c = 0; c < causes.size(); c++) if (sumBy(all, c, known) == sum) return c;
            throw new IllegalStateException("no test for the sum");
        }

        int foretells(int other, int check) {
            if (!has(other) || !has(check)) return -2;
            int count = 0;
            for (int drive : checks.get(check).setDrives) if (troubled.get(drive).contains(other)) count++;
            return count;
        }

        int sets(int check) {
            return has(check) ? checks.get(check).setDrives.size() : -2;
        }

        private int codes(String code) {
            int count = 0;
            for (ModelCheck c : checks) if (c.code.equals(code)) count++;
            return count;
        }

        int count(int what) {
            if (what < 0 || what > 7) return -2;
            int[] all = {checks.size(), ended, codes("PENDING"), codes("SET"), codes("HEALED"), frozen.size(), causes.size(),
                driving ? 1 : 0};
            return all[what];
        }

        long digest() {
            List<Integer> all = new ArrayList<>();
            for (int what = 0; what < 8; what++) all.add(count(what));
            for (ModelCheck c : checks) {
                for (int what = 0; what < 8; what++) all.add(about(c.number, what));
                all.add(frozenAt(c.number));
                for (int i = 0; i < 4; i++) all.add(frozen(c.number, i));
                all.add(sets(c.number));
            }
            for (int fact : facts) all.add(fact);
            for (int[] cause : causes) {
                all.add(cause[0]);
                all.add(cause[1]);
            }
            long h = 211;
            for (int v : all) h = 31 * h + v;
            return h;
        }
    }
}
