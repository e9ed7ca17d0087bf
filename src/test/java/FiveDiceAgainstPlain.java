import java.math.BigInteger;
import java.util.ArrayList;
import java.util.Arrays;
import java.util.HashMap;
import java.util.List;
import java.util.Map;
import java.util.Random;
import java.util.TreeSet;

/** Long runs of calls against a plain model, which follows the document word for word with fractions. */
public final class FiveDiceAgainstPlain {
    private static final int CALLS = 300;

    public static void main(String[] args) {
        int wrong = 0;
        for (int seed = 1; seed <= 260; seed++) {
            if (!sameAnswers(new Random(seed), seed)) wrong++;
        }
        System.out.println(wrong == 0 ? "all runs answer as the plain model" : wrong + " runs differ");
        if (wrong != 0) System.exit(1);
    }

    private static boolean sameAnswers(Random random, int seed) {
        FiveDice x = new FiveDice();
        Plain plain = new Plain();
        Caller caller = new Caller(random, seed % 13 == 0);
        List<String> calls = new ArrayList<>();
        for (int i = 0; i < CALLS; i++) {
            int[] call = caller.next(plain);
            calls.add(Arrays.toString(call));
            long got = Caller.ask(x, call);
            long want = Caller.ask(plain, call);
            if (got != want) {
                System.out.println("seed " + seed + ", calls " + calls + ": answered " + got + ", due is " + want);
                return false;
            }
        }
        return true;
    }

    /** Chooses calls that lead somewhere, and now and then calls that do not. */
    private static final class Caller {
        private static final int[] ODD = {0, -1, 1, 7, 10, 11111, 12345, 66666, 123456, 501, -500,
            Integer.MAX_VALUE, Integer.MIN_VALUE};
        private final Random random;
        private final boolean many;

        Caller(Random random, boolean many) {
            this.random = random;
            this.many = many;
        }

        int[] next(Plain p) {
            if (random.nextInt(12) == 0) return odd();
            if (random.nextInt(3) == 0) return look(p);
            if (!p.begun) return set(p);
            if (p.over()) return random.nextInt(4) == 0 ? new int[] {3} : look(p);
            if (random.nextInt(120) == 0) return new int[] {3};
            if (p.toThrow() > 0) {
                return random.nextBoolean() ? new int[] {5, random.nextInt()} : new int[] {4, figures(p.s, p.toThrow())};
            }
            if (p.left > 0 && random.nextInt(5) > 0) return new int[] {6, part(p.heap)};
            return new int[] {7, random.nextInt(p.rows.size())};
        }

        private int[] odd() {
            int[] call = {random.nextInt(20), odd(6), odd(6), odd(4)};
            if (call[0] == 3) call[0] = 19;
            return call;
        }

        private int odd(int small) {
            return random.nextBoolean() ? random.nextInt(small) : ODD[random.nextInt(ODD.length)];
        }

        private int[] set(Plain p) {
            if (random.nextInt(3) == 0) return dice();
            if (!p.rows.isEmpty() && random.nextInt(3) == 0) return new int[] {2};
            if (p.rows.size() > (many ? 6 : 2) && random.nextInt(3) == 0) return new int[] {3};
            return new int[] {1, random.nextInt(6), 1 + random.nextInt(6), random.nextInt(31)};
        }

        /** Few dice where rows are many, as only then they are not LARGE. */
        private int[] dice() {
            if (many) return new int[] {0, 1 + random.nextInt(2), 2 + random.nextInt(3), 1 + random.nextInt(3)};
            if (random.nextInt(6) == 0) return new int[] {0, 5, 6, 3};
            return new int[] {0, 1 + random.nextInt(5), 2 + random.nextInt(5), 1 + random.nextInt(3)};
        }

        private int[] look(Plain p) {
            int what = 8 + random.nextInt(12);
            switch (what) {
                case 10: return new int[] {10, part(p.heap)};
                case 13: return new int[] {13, random.nextInt(random.nextBoolean() ? 40 : 130)};
                case 16: return new int[] {16, random.nextInt(Math.max(1, p.rows.size())), figures(p.s, p.d)};
                case 17: return new int[] {17, figures(p.s, p.d)};
                case 18: return new int[] {18, random.nextInt(Math.max(1, p.rows.size()))};
                case 19: return new int[] {19, random.nextInt(10)};
                default: return new int[] {what};
            }
        }

        private int figures(int sides, int dice) {
            int number = 0;
            for (int i = 0; i < dice; i++) number = number * 10 + 1 + random.nextInt(sides);
            return number;
        }

        private int part(String heap) {
            List<Character> figures = new ArrayList<>();
            boolean all = random.nextInt(6) == 0;
            for (char c : heap.toCharArray()) if (all || random.nextBoolean()) figures.add(c);
            java.util.Collections.shuffle(figures, random);
            int number = 0;
            for (char c : figures) number = number * 10 + c - '0';
            return number;
        }

        private static int at(int[] call, int i) {
            return i < call.length ? call[i] : 0;
        }

        static long ask(FiveDice x, int[] call) {
            int a = at(call, 1);
            int b = at(call, 2);
            int c = at(call, 3);
            switch (call[0]) {
                case 0: return x.dice(a, b, c);
                case 1: return x.row(a, b, c);
                case 2: return x.begin();
                case 3: return x.end();
                case 4: return x.fall(a);
                case 5: return x.draw(a);
                case 6: return x.hold(a);
                case 7: return x.fill(a);
                case 8: return x.unit();
                case 9: return x.worth();
                case 10: return x.worthOf(a);
                case 11: return x.bestHold();
                case 12: return x.bestRow();
                case 13: return x.chance(a);
                case 14: return x.luck();
                case 15: return x.slip();
                case 16: return x.points(a, b);
                case 17: return x.ways(a);
                case 18: return x.filled(a);
                default: return x.count(a);
            }
        }

        static long ask(Plain x, int[] call) {
            int a = at(call, 1);
            int b = at(call, 2);
            int c = at(call, 3);
            switch (call[0]) {
                case 0: return x.dice(a, b, c);
                case 1: return x.row(a, b, c);
                case 2: return x.begin();
                case 3: return x.end();
                case 4: return x.fall(a);
                case 5: return x.draw(a);
                case 6: return x.hold(a);
                case 7: return x.fill(a);
                case 8: return x.begun ? x.unit().longValueExact() : -4;
                case 9: return x.begun ? x.told(x.worthHere()) : -4;
                case 10: return x.worthOf(a);
                case 11: return x.bestHold();
                case 12: return x.bestRow();
                case 13: return x.chance(a);
                case 14: return x.toldOfEmpty(x.luck);
                case 15: return x.toldOfEmpty(x.slip);
                case 16: return x.points(a, b);
                case 17: return x.ways(a);
                case 18: return x.filled(a);
                default: return x.count(a);
            }
        }
    }

    private record Fraction(BigInteger over, BigInteger under) implements Comparable<Fraction> {
        static Fraction of(long value) {
            return new Fraction(BigInteger.valueOf(value), BigInteger.ONE);
        }

        Fraction plus(Fraction o) {
            if (under.equals(o.under)) return new Fraction(over.add(o.over), under);
            return new Fraction(over.multiply(o.under).add(o.over.multiply(under)), under.multiply(o.under)).shortened();
        }

        Fraction minus(Fraction o) {
            return plus(new Fraction(o.over.negate(), o.under));
        }

        Fraction dividedBy(long n) {
            return new Fraction(over, under.multiply(BigInteger.valueOf(n))).shortened();
        }

        Fraction shortened() {
            BigInteger g = over.gcd(under);
            return new Fraction(over.divide(g), under.divide(g));
        }

        long times(BigInteger n) {
            BigInteger[] parts = over.multiply(n).divideAndRemainder(under);
            if (parts[1].signum() != 0) throw new IllegalStateException("no whole number");
            return parts[0].longValueExact();
        }

        @Override
        public int compareTo(Fraction o) {
            return over.multiply(o.under).compareTo(o.over.multiply(under));
        }
    }

    /** The document's game: heaps are texts of rising figures, and every throw is gone through. */
    private static final class Plain {
        private static final int WORTH = Integer.MIN_VALUE;
        int d = 5, s = 6, t = 3;
        final List<int[]> rows = new ArrayList<>();
        boolean begun;
        Integer[] filledWith = {};
        /** "" is no heap; held is null but while dice are to be thrown in a turn. */
        String heap = "";
        String held;
        int left;
        int sum;
        Fraction luck = Fraction.of(0), slip = Fraction.of(0);
        final Map<String, Fraction> known = new HashMap<>();

        int dice(int newD, int newS, int newT) {
            if (newD < 1 || newD > 5 || newS < 2 || newS > 6 || newT < 1 || newT > 3) return -3;
            if (begun) return -4;
            d = newD;
            s = newS;
            t = newT;
            return 1;
        }

        int row(int kind, int n, int p) {
            if (kind < 0 || kind > 5 || n < 1 || n > 6 || p < 0 || p > 30) return -3;
            if (begun) return -4;
            if (rows.size() == 8) return -6;
            rows.add(new int[] {kind, n, p});
            return rows.size() - 1;
        }

        int begin() {
            if (begun || rows.isEmpty()) return -4;
            if (emptyUnit().compareTo(BigInteger.TEN.pow(15)) > 0) return -5;
            begun = true;
            filledWith = new Integer[rows.size()];
            known.clear();
            left = t;
            return 1;
        }

        int end() {
            begun = false;
            rows.clear();
            filledWith = new Integer[0];
            heap = "";
            held = null;
            left = 0;
            sum = 0;
            luck = Fraction.of(0);
            slip = Fraction.of(0);
            return 1;
        }

        boolean over() {
            return begun && !Arrays.asList(filledWith).contains(null);
        }

        int toThrow() {
            if (!begun || over()) return 0;
            if (held != null) return d - held.length();
            return heap.isEmpty() ? d : 0;
        }

        private boolean hasHeap() {
            return !heap.isEmpty() && held == null;
        }

        private static String sorted(String figures) {
            char[] c = figures.toCharArray();
            Arrays.sort(c);
            return new String(c);
        }

        private boolean tells(int number, int dice) {
            return ("" + number).matches("[1-" + s + "]{" + dice + "}");
        }

        int fall(int number) {
            if (toThrow() == 0) return -4;
            if (!tells(number, toThrow())) return -3;
            Fraction ahead = stand();
            heap = sorted((held == null ? "" : held) + number);
            held = null;
            left--;
            luck = luck.plus(stand().minus(ahead));
            return Integer.parseInt(heap);
        }

        int draw(int z) {
            if (toThrow() == 0) return -4;
            long y = z;
            int number = 0;
            for (int i = 0; i < toThrow(); i++) {
                y = Math.floorMod(y * 1103515245L + 12345L, 1L << 31);
                number = number * 10 + (int) (1 + (y >> 12) % s);
            }
            return fall(number);
        }

        private TreeSet<Integer> holds() {
            TreeSet<Integer> holds = new TreeSet<>();
            for (int mask = 0; mask < 1 << d; mask++) {
                int number = 0;
                for (int i = 0; i < d; i++) if ((mask >> i & 1) == 1) number = number * 10 + heap.charAt(i) - '0';
                holds.add(number);
            }
            return holds;
        }

        private String holdOf(int number) {
            if (number < 0) return null;
            String figures = number == 0 ? "" : sorted("" + number);
            if (figures.length() > 5 || figures.contains("0")) return null;
            return holds().contains(number == 0 ? 0 : Integer.parseInt(figures)) ? figures : null;
        }

        int hold(int number) {
            if (!hasHeap() || left == 0) return -4;
            String hold = holdOf(number);
            if (hold == null) return -3;
            Fraction ahead = stand();
            if (hold.length() == d) left--; else held = hold;
            slip = slip.plus(ahead.minus(stand()));
            return toThrow();
        }

        int fill(int row) {
            if (row < 0 || row >= rows.size()) return -2;
            if (!hasHeap() || filledWith[row] != null) return -4;
            Fraction ahead = stand();
            filledWith[row] = pointsOf(row, heap);
            sum += filledWith[row];
            heap = "";
            left = over() ? 0 : t;
            slip = slip.plus(ahead.minus(stand()));
            return filledWith[row];
        }

        private BigInteger emptyUnit() {
            return BigInteger.valueOf(s).pow(d * t * rows.size());
        }

        BigInteger unit() {
            int free = rows.size() - count(4);
            return BigInteger.valueOf(s).pow(d * (heap.isEmpty() ? t * free : left + t * (free - 1)));
        }

        long told(Fraction value) {
            return value.times(unit());
        }

        long toldOfEmpty(Fraction value) {
            return begun ? value.times(emptyUnit()) : 0;
        }

        private int sheet() {
            int sheet = 0;
            for (int i = 0; i < filledWith.length; i++) if (filledWith[i] != null) sheet |= 1 << i;
            return sheet;
        }

        Fraction worthHere() {
            return valueHere(WORTH);
        }

        private Fraction valueHere(int need) {
            if (heap.isEmpty()) return before(sheet(), need);
            return held == null ? ofHeap(sheet(), need, heap, left) : ofHold(sheet(), need, held, left);
        }

        private Fraction stand() {
            return Fraction.of(sum).plus(worthHere());
        }

        private Fraction before(int sheet, int need) {
            if (sheet == (1 << rows.size()) - 1) return Fraction.of(need == WORTH || need > 0 ? 0 : 1);
            return ofHold(sheet, need, "", t);
        }

        private Fraction ofHold(int sheet, int need, String hold, int k) {
            String key = sheet + "/" + need + "/" + hold + "/" + k;
            Fraction result = known.get(key);
            if (result == null) {
                long ways = Math.round(Math.pow(s, d - hold.length()));
                Fraction all = Fraction.of(0);
                for (long way = 0; way < ways; way++) {
                    StringBuilder shown = new StringBuilder(hold);
                    long rest = way;
                    for (int i = hold.length(); i < d; i++) {
                        shown.append(1 + rest % s);
                        rest /= s;
                    }
                    all = all.plus(ofHeap(sheet, need, sorted(shown.toString()), k - 1));
                }
                result = all.dividedBy(ways);
                known.put(key, result);
            }
            return result;
        }

        private Fraction ofHeap(int sheet, int need, String of, int k) {
            String key = sheet + "/" + need + "/" + of + ":" + k;
            Fraction result = known.get(key);
            if (result == null) {
                result = Fraction.of(-1);
                if (k == 0) {
                    for (int row = 0; row < rows.size(); row++) {
                        if ((sheet >> row & 1) == 0) result = greater(result, inRow(sheet, need, of, row));
                    }
                } else {
                    for (int mask = 0; mask < 1 << d; mask++) {
                        StringBuilder hold = new StringBuilder();
                        for (int i = 0; i < d; i++) if ((mask >> i & 1) == 1) hold.append(of.charAt(i));
                        result = greater(result, ofHold(sheet, need, hold.toString(), k));
                    }
                }
                known.put(key, result);
            }
            return result;
        }

        private Fraction inRow(int sheet, int need, String of, int row) {
            int points = pointsOf(row, of);
            if (need == WORTH) return Fraction.of(points).plus(before(sheet | 1 << row, WORTH));
            return before(sheet | 1 << row, Math.max(0, need - points));
        }

        private static Fraction greater(Fraction a, Fraction b) {
            return a.compareTo(b) >= 0 ? a : b;
        }

        long worthOf(int number) {
            if (!hasHeap() || left == 0) return -4;
            String hold = holdOf(number);
            return hold == null ? -3 : told(ofHold(sheet(), WORTH, hold, left));
        }

        int bestHold() {
            if (!hasHeap() || left == 0) return -4;
            int best = -1;
            Fraction most = Fraction.of(-1);
            // Rising numbers without 0 have no fewer figures than those ahead of them.
            for (int number : holds()) {
                Fraction worth = ofHold(sheet(), WORTH, number == 0 ? "" : "" + number, left);
                if (worth.compareTo(most) > 0) {
                    most = worth;
                    best = number;
                }
            }
            return best;
        }

        int bestRow() {
            if (!hasHeap()) return -4;
            int best = -1;
            Fraction most = Fraction.of(-1);
            for (int row = 0; row < rows.size(); row++) {
                if (filledWith[row] == null && inRow(sheet(), WORTH, heap, row).compareTo(most) > 0) {
                    most = inRow(sheet(), WORTH, heap, row);
                    best = row;
                }
            }
            return best;
        }

        long chance(int x) {
            if (x < 0 || x > 500) return -3;
            if (!begun) return -4;
            return told(valueHere(Math.max(0, x - sum)));
        }

        private int pointsOf(int row, String of) {
            int[] r = rows.get(row);
            int total = of.chars().map(c -> c - '0').sum();
            Map<Integer, Integer> shown = new HashMap<>();
            of.chars().forEach(c -> shown.merge(c - '0', 1, Integer::sum));
            switch (r[0]) {
                case 0: return r[1] * shown.getOrDefault(r[1], 0);
                case 1: return shown.values().stream().anyMatch(v -> v >= r[1]) ? total : 0;
                case 2:
                    for (int from = 1; from + r[1] - 1 <= s; from++) {
                        boolean all = true;
                        for (int side = from; side < from + r[1]; side++) all &= shown.containsKey(side);
                        if (all) return r[2];
                    }
                    return 0;
                case 3: return shown.values().stream().filter(v -> v >= 2).count() >= r[1] ? r[2] : 0;
                case 4: return shown.size() == r[1] ? r[2] : 0;
                default: return total + r[2];
            }
        }

        int points(int row, int number) {
            if (row < 0 || row >= rows.size()) return -2;
            return tells(number, d) ? pointsOf(row, sorted("" + number)) : -3;
        }

        int ways(int number) {
            if (!tells(number, d)) return -3;
            String sought = sorted("" + number);
            int ways = 0;
            for (int way = 0; way < Math.pow(s, d); way++) {
                StringBuilder shown = new StringBuilder();
                int rest = way;
                for (int i = 0; i < d; i++) {
                    shown.append(1 + rest % s);
                    rest /= s;
                }
                if (sorted(shown.toString()).equals(sought)) ways++;
            }
            return ways;
        }

        int filled(int row) {
            if (row < 0 || row >= rows.size()) return -2;
            return begun && filledWith[row] != null ? filledWith[row] : -1;
        }

        int count(int what) {
            switch (what) {
                case 0: return d;
                case 1: return s;
                case 2: return t;
                case 3: return rows.size();
                case 4: return begun ? Integer.bitCount(sheet()) : 0;
                case 5: return sum;
                case 6:
                    String shown = held == null ? heap : held;
                    return shown.isEmpty() ? 0 : Integer.parseInt(shown);
                case 7: return left;
                case 8: return toThrow();
                case 9: return begun ? 1 : 0;
                default: return -3;
            }
        }
    }
}
