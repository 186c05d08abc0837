import java.math.BigInteger;
import java.util.ArrayList;
import java.util.Arrays;
import java.util.HashMap;
import java.util.List;
import java.util.Map;

/**
 * Long runs of calls against a model of the document that is written apart from the class, slowly and as its words
 * say: exact numbers, all of a row looked at again, the odometer gone on one by one.
 */
public final class ModelRuns {
    private static final int RUNS = 1500;
    private static final int CALLS = 512;
    private static final long NO = Long.MIN_VALUE;

    /** A fixed sequence of numbers, the same in every run of the test. */
    private static final class Dice {
        private long state;

        Dice(long seed) {
            state = seed * 0x9E3779B97F4A7C15L + 12345;
        }

        long bits() {
            state += 0x9E3779B97F4A7C15L;
            long z = state;
            z = (z ^ (z >>> 30)) * 0xBF58476D1CE4E5B9L;
            z = (z ^ (z >>> 27)) * 0x94D049BB133111EBL;
            return z ^ (z >>> 31);
        }

        int upTo(int end) {
            return (int) Math.floorMod(bits(), (long) end);
        }

        int within(int least, int most) {
            return least + upTo(most - least + 1);
        }

        boolean oneIn(int n) {
            return upTo(n) == 0;
        }
    }

    private static final class ModelBase {
        List<Integer> row = new ArrayList<>();
        List<Long> worths = new ArrayList<>();
        long top;

        ModelBase(String figures) {
            for (char c : figures.toCharArray()) {
                row.add(c - '0');
            }
            worths.add(1L);
            worths.add(step(0) + 1L);
            while (worths.get(worths.size() - 1) <= 1000000000L) {
                int k = worths.size() - 1;
                worths.add(step(k) * worths.get(k) + worths.get(k - 1));
            }
            worths.remove(worths.size() - 1);
            top = greatestLegal();
        }

        int step(int k) {
            return row.get(k % row.size());
        }

        int high() {
            return worths.size();
        }

        int kind() {
            for (int s : row) {
                if (s != row.get(0)) {
                    return 0;
                }
            }
            return row.get(0) == 1 ? 2 : row.get(0) == 2 ? 3 : 1;
        }

        /** best[k]: the greatest value of legal digits at the places below k. */
        private long greatestLegal() {
            long[] best = new long[high() + 1];
            for (int k = 0; k < high(); k++) {
                long less = (step(k) - 1) * worths.get(k) + best[k];
                long whole = step(k) * worths.get(k) + (k > 0 ? best[k - 1] : 0);
                best[k + 1] = Math.max(less, whole);
            }
            return best[high()];
        }

        int[] greedy(long v) {
            int[] digits = new int[high()];
            for (int k = high() - 1; k >= 0; k--) {
                while (v >= worths.get(k)) {
                    v -= worths.get(k);
                    digits[k]++;
                }
            }
            return digits;
        }

        BigInteger value(int[] digits) {
            BigInteger v = BigInteger.ZERO;
            for (int k = 0; k < digits.length; k++) {
                v = v.add(BigInteger.valueOf(digits[k]).multiply(BigInteger.valueOf(worths.get(k))));
            }
            return v;
        }

        boolean legal(int[] digits) {
            for (int k = 0; k < digits.length; k++) {
                if (digits[k] > step(k) || k > 0 && digits[k] == step(k) && digits[k - 1] != 0) {
                    return false;
                }
            }
            return true;
        }

        private long[] lower;
        private List<Map<Long, long[]>> memo;

        /** Ways, fewest (or -1) of v by the worths at the places below k. */
        private long[] make(int k, long v, int m) {
            if (v == 0 && k == 0) {
                return new long[] {1, 0};
            }
            if (k == 0 || v < 0 || v > lower[k]) {
                return new long[] {0, -1};
            }
            long[] known = memo.get(k).get(v);
            if (known != null) {
                return known;
            }
            long ways = 0;
            long fewest = -1;
            for (int c = 0; c <= m; c++) {
                long[] rest = make(k - 1, v - c * worths.get(k - 1), m);
                ways += rest[0];
                if (rest[1] >= 0 && (fewest < 0 || rest[1] + c < fewest)) {
                    fewest = rest[1] + c;
                }
            }
            long[] made = {ways, fewest};
            memo.get(k).put(v, made);
            return made;
        }

        long ways(long v, int m, int what) {
            lower = new long[high() + 1];
            memo = new ArrayList<>();
            memo.add(new HashMap<>());
            for (int k = 0; k < high(); k++) {
                lower[k + 1] = lower[k] + m * worths.get(k);
                memo.add(new HashMap<>());
            }
            return make(high(), v, m)[what];
        }
    }

    private static final class ModelReel {
        int base;
        int[] digits;

        ModelReel(int base, int[] digits) {
            this.base = base;
            this.digits = digits;
        }
    }

    private static final class Deed {
        int reel;
        int[] digits;

        Deed(int reel, int[] digits) {
            this.reel = reel;
            this.digits = digits.clone();
        }
    }

    private static final class Model {
        ModelBase[] bases = {new ModelBase("1"), new ModelBase("1"), new ModelBase("1")};
        ModelReel[] reels = new ModelReel[6];
        long[][] rows = new long[3][];
        StringBuilder tape = new StringBuilder();
        List<Deed> deeds = new ArrayList<>();
        ModelBase[] keptBases;
        ModelReel[] keptReels;

        static boolean in(long n, long least, long most) {
            return least <= n && n <= most;
        }

        boolean noReel(int reel) {
            return !in(reel, 0, 5);
        }

        boolean noBase(int base) {
            return !in(base, 0, 2);
        }

        boolean noRow(int row) {
            return !in(row, 0, 2);
        }

        ModelBase baseOf(int reel) {
            return bases[reels[reel].base];
        }

        boolean hasPlace(int reel, int k) {
            return in(k, 0, baseOf(reel).high() - 1);
        }

        static int notZero(int[] digits) {
            int n = 0;
            for (int d : digits) {
                n += d == 0 ? 0 : 1;
            }
            return n;
        }

        static int unlike(int[] one, int[] other) {
            int n = 0;
            for (int k = 0; k < one.length; k++) {
                n += one[k] == other[k] ? 0 : 1;
            }
            return n;
        }

        void forget(int reel) {
            deeds.removeIf(d -> d.reel == reel);
        }

        int fill(int reel, int base, int[] digits) {
            reels[reel] = new ModelReel(base, digits);
            forget(reel);
            return notZero(digits);
        }

        void deed(int reel) {
            deeds.add(new Deed(reel, reels[reel].digits));
            if (deeds.size() > 12) {
                deeds.remove(0);
            }
        }

        int base(int base, int n, int steps) {
            String figures = String.valueOf(steps);
            if (noBase(base) || !in(n, 1, 8) || steps < 0 || figures.length() != n || figures.contains("0")) {
                return -2;
            }
            bases[base] = new ModelBase(figures);
            for (int r = 0; r < 6; r++) {
                if (reels[r] != null && reels[r].base == base) {
                    reels[r] = null;
                    forget(r);
                }
            }
            return bases[base].high();
        }

        int of(int base, int what) {
            if (noBase(base) || !in(what, 0, 2)) {
                return -2;
            }
            return new int[] {bases[base].kind(), bases[base].row.size(), bases[base].high()}[what];
        }

        long worth(int base, int k, int what) {
            if (noBase(base) || !in(k, 0, bases[base].high() - 1) || !in(what, 0, 1)) {
                return NO;
            }
            return what == 0 ? bases[base].worths.get(k) : bases[base].step(k);
        }

        long top(int base) {
            return noBase(base) ? NO : bases[base].top;
        }

        int taken(int base, int k) {
            if (noBase(base) || !in(k, 0, 3)) {
                return -2;
            }
            int kind = bases[base].kind();
            int[][] over = {{0}, {0, 1}, {0, 1, 2}, {0, 1, 3}};
            for (int o : over[kind]) {
                if (o == k) {
                    return kind;
                }
            }
            return -13;
        }

        int write(int reel, int base, long v) {
            if (noReel(reel) || noBase(base) || v < 0) {
                return -2;
            }
            return v > bases[base].top ? -3 : fill(reel, base, bases[base].greedy(v));
        }

        int empty(int reel) {
            if (noReel(reel)) {
                return -2;
            }
            if (reels[reel] == null) {
                return -11;
            }
            reels[reel] = null;
            forget(reel);
            return 1;
        }

        int told(int reel, int what) {
            if (noReel(reel) || !in(what, 0, 3)) {
                return -2;
            }
            if (reels[reel] == null) {
                return -11;
            }
            int[] digits = reels[reel].digits;
            int highest = -1;
            for (int k = 0; k < digits.length; k++) {
                highest = digits[k] != 0 ? k : highest;
            }
            return new int[] {reels[reel].base, baseOf(reel).legal(digits) ? 1 : 0, notZero(digits), highest}[what];
        }

        int at(int reel, int k) {
            if (noReel(reel)) {
                return -2;
            }
            if (reels[reel] == null) {
                return -11;
            }
            return hasPlace(reel, k) ? reels[reel].digits[k] : -12;
        }

        long value(int reel) {
            return noReel(reel) || reels[reel] == null ? NO : exact(reel).longValueExact();
        }

        BigInteger exact(int reel) {
            return baseOf(reel).value(reels[reel].digits);
        }

        int digit(int reel, int k, int d) {
            if (noReel(reel) || !in(d, 0, 99)) {
                return -2;
            }
            if (reels[reel] == null) {
                return -11;
            }
            if (!hasPlace(reel, k)) {
                return -12;
            }
            deed(reel);
            int was = reels[reel].digits[k];
            reels[reel].digits[k] = d;
            return was;
        }

        /** The digits after a carry (1) or a borrow (-1) at place k, null where it can't be. */
        int[] moved(int reel, int k, int by) {
            int[] digits = reels[reel].digits.clone();
            ModelBase base = baseOf(reel);
            digits[k + 1] += by;
            if (k == 0) {
                digits[0] -= by * base.worths.get(1).intValue();
            } else {
                digits[k] -= by * base.step(k);
                digits[k - 1] -= by;
            }
            for (int d : digits) {
                if (!in(d, 0, 99)) {
                    return null;
                }
            }
            return digits;
        }

        int move(int reel, int k, int by) {
            if (noReel(reel)) {
                return -2;
            }
            if (reels[reel] == null) {
                return -11;
            }
            if (!in(k, 0, baseOf(reel).high() - 2)) {
                return -12;
            }
            int[] then = moved(reel, k, by);
            if (then == null) {
                return -3;
            }
            deed(reel);
            reels[reel].digits = then;
            return by < 0 ? then[k] : then[k + 1];
        }

        int settle(int reel) {
            if (noReel(reel)) {
                return -2;
            }
            if (reels[reel] == null) {
                return -11;
            }
            deed(reel);
            int carries = 0;
            boolean again = true;
            while (again) {
                again = false;
                for (int k = baseOf(reel).high() - 2; k >= 0 && !again; k--) {
                    int[] then = moved(reel, k, 1);
                    if (then != null) {
                        reels[reel].digits = then;
                        carries++;
                        again = true;
                    }
                }
            }
            return carries;
        }

        int turn(int reel, BigInteger v) {
            deed(reel);
            int[] then = baseOf(reel).greedy(v.longValueExact());
            int turned = unlike(then, reels[reel].digits);
            reels[reel].digits = then;
            return turned;
        }

        boolean aboveTop(int reel, BigInteger v) {
            return v.compareTo(BigInteger.valueOf(baseOf(reel).top)) > 0;
        }

        int right(int reel) {
            if (noReel(reel)) {
                return -2;
            }
            if (reels[reel] == null) {
                return -11;
            }
            return aboveTop(reel, exact(reel)) ? -3 : turn(reel, exact(reel));
        }

        int shift(int reel, int n) {
            if (noReel(reel) || !in(n, -9, 9)) {
                return -2;
            }
            if (reels[reel] == null) {
                return -11;
            }
            deed(reel);
            int[] was = reels[reel].digits;
            int[] then = new int[was.length];
            int lost = 0;
            for (int k = 0; k < was.length; k++) {
                if (in(k + n, 0, was.length - 1)) {
                    then[k + n] = was[k];
                } else if (was[k] != 0) {
                    lost++;
                }
            }
            reels[reel].digits = then;
            return lost;
        }

        int on(int reel, int t) {
            if (noReel(reel) || !in(t, -100000, 100000)) {
                return -2;
            }
            if (reels[reel] == null) {
                return -11;
            }
            if (!baseOf(reel).legal(reels[reel].digits)) {
                return -3;
            }
            BigInteger v = exact(reel).add(BigInteger.valueOf(t));
            return v.signum() < 0 || aboveTop(reel, v) ? -4 : turn(reel, v);
        }

        int soon(int reel, int k) {
            if (noReel(reel)) {
                return -2;
            }
            if (reels[reel] == null) {
                return -11;
            }
            if (!hasPlace(reel, k)) {
                return -12;
            }
            if (!baseOf(reel).legal(reels[reel].digits)) {
                return -3;
            }
            long v = value(reel);
            for (int t = 1; t <= 1000 && v + t <= baseOf(reel).top; t++) {
                if (baseOf(reel).greedy(v + t)[k] != reels[reel].digits[k]) {
                    return t;
                }
            }
            return -1;
        }

        int sum(int one, int other, int to, int what) {
            if (noReel(one) || noReel(other) || noReel(to) || !in(what, 0, 4)) {
                return -2;
            }
            if (reels[one] == null || reels[other] == null) {
                return -11;
            }
            int base = reels[one].base;
            if (base != reels[other].base) {
                return -13;
            }
            if (what == 0) {
                int[] all = new int[bases[base].high()];
                for (int k = 0; k < all.length; k++) {
                    all[k] = reels[one].digits[k] + reels[other].digits[k];
                    if (all[k] > 99) {
                        return -3;
                    }
                }
                return fill(to, base, all);
            }
            BigInteger a = exact(one);
            BigInteger b = exact(other);
            if (what > 2 && b.signum() == 0) {
                return -3;
            }
            BigInteger v = what == 1 ? a.subtract(b) : what == 2 ? a.multiply(b) : what == 3 ? a.divide(b) : a.mod(b);
            return v.signum() < 0 || aboveTop(one, v) ? -3 : fill(to, base, bases[base].greedy(v.longValueExact()));
        }

        int like(int one, int other, int what) {
            if (noReel(one) || noReel(other) || !in(what, 0, 1)) {
                return -2;
            }
            if (reels[one] == null || reels[other] == null) {
                return -11;
            }
            boolean alike = what == 0 ? exact(one).equals(exact(other))
                : reels[one].base == reels[other].base && Arrays.equals(reels[one].digits, reels[other].digits);
            return alike ? 1 : 0;
        }

        long ways(int base, long v, int m, int what) {
            boolean bad = noBase(base) || !in(v, 0, 1000000000L) || !in(m, 1, 9) || !in(what, 0, 1);
            return bad ? NO : bases[base].ways(v, m, what);
        }

        int crossed(int base, int other, long v) {
            if (noBase(base) || noBase(other) || v < 0) {
                return -2;
            }
            if (v > bases[base].top || v > bases[other].top) {
                return -3;
            }
            int[] a = bases[base].greedy(v);
            int[] b = bases[other].greedy(v);
            int n = Math.min(a.length, b.length);
            return n - unlike(Arrays.copyOf(a, n), Arrays.copyOf(b, n));
        }

        int print(int reel, int k) {
            if (noReel(reel) || k < -1) {
                return -2;
            }
            if (reels[reel] == null) {
                return -11;
            }
            StringBuilder text = new StringBuilder();
            for (int place = Math.max(0, told(reel, 3)); place >= 0; place--) {
                text.append(reels[reel].digits[place]).append(place > 0 ? "." : "");
            }
            return k == -1 ? text.length() : k < text.length() ? text.charAt(k) : -12;
        }

        int feed(int letter) {
            if (!in(letter, 0, 127)) {
                return -2;
            }
            if (tape.length() == 80) {
                return -4;
            }
            tape.append((char) letter);
            return tape.length();
        }

        /** The first place at which what stands up to it is no beginning of a text; the size, if it is none at its end. */
        int fault(String text, int high) {
            String number = "[0-9][0-9]?";
            String numbers = number + "(\\." + number + "){0," + (high - 1) + "}";
            String begun = "(" + number + "\\.){0," + (high - 1) + "}(" + number + ")?";
            for (int i = 0; i < text.length(); i++) {
                String upTo = text.substring(0, i + 1);
                boolean pointAfterLast = upTo.matches(numbers + "\\.");
                if (!upTo.matches(begun) && !pointAfterLast) {
                    return i;
                }
            }
            return text.matches(numbers) ? -1 : text.length();
        }

        int read(int reel, int base) {
            if (noReel(reel) || noBase(base)) {
                return -2;
            }
            String text = tape.toString();
            tape.setLength(0);
            int fault = fault(text, bases[base].high());
            if (fault >= 0) {
                return -100 - fault;
            }
            String[] numbers = text.split("\\.");
            int[] digits = new int[bases[base].high()];
            for (int i = 0; i < numbers.length; i++) {
                digits[numbers.length - 1 - i] = Integer.parseInt(numbers[i]);
            }
            fill(reel, base, digits);
            return numbers.length;
        }

        int back() {
            if (deeds.isEmpty()) {
                return -3;
            }
            Deed latest = deeds.remove(deeds.size() - 1);
            reels[latest.reel].digits = latest.digits;
            return deeds.size();
        }

        int row(int row, int n) {
            if (noRow(row) || n > 60) {
                return -2;
            }
            if (n < -1) {
                return -14;
            }
            rows[row] = n < 0 ? null : new long[n];
            return 1;
        }

        int put(int row, int i, long v) {
            if (noRow(row)) {
                return -2;
            }
            if (rows[row] == null) {
                return -11;
            }
            if (!in(i, 0, rows[row].length - 1)) {
                return -12;
            }
            rows[row][i] = v;
            return 1;
        }

        long get(int row, int i) {
            return noRow(row) || rows[row] == null || !in(i, 0, rows[row].length - 1) ? NO : rows[row][i];
        }

        int copy(int row, int i, int other, int j, int n) {
            if (noRow(row) || noRow(other)) {
                return -2;
            }
            if (rows[row] == null || rows[other] == null) {
                return -11;
            }
            if (n < 0 || i < 0 || j < 0 || (long) i + n > rows[row].length || (long) j + n > rows[other].length) {
                return -12;
            }
            long[] were = rows[row].clone();
            for (int a = 0; a < n; a++) {
                rows[other][j + a] = were[i + a];
            }
            return n;
        }

        int lay(int reel, int base, int row) {
            if (noReel(reel) || noBase(base) || noRow(row)) {
                return -2;
            }
            if (rows[row] == null) {
                return -11;
            }
            if (rows[row].length > bases[base].high()) {
                return -3;
            }
            int[] digits = new int[bases[base].high()];
            for (int k = 0; k < rows[row].length; k++) {
                if (!in(rows[row][k], 0, 99)) {
                    return -3;
                }
                digits[k] = (int) rows[row][k];
            }
            return fill(reel, base, digits);
        }

        int film(int reel, int row) {
            if (noReel(reel) || noRow(row)) {
                return -2;
            }
            if (reels[reel] == null) {
                return -11;
            }
            rows[row] = new long[reels[reel].digits.length];
            for (int k = 0; k < rows[row].length; k++) {
                rows[row][k] = reels[reel].digits[k];
            }
            return rows[row].length;
        }

        static ModelReel[] cloned(ModelReel[] reels) {
            ModelReel[] all = new ModelReel[6];
            for (int r = 0; r < 6; r++) {
                all[r] = reels[r] == null ? null : new ModelReel(reels[r].base, reels[r].digits.clone());
            }
            return all;
        }

        int image() {
            keptBases = bases.clone();
            keptReels = cloned(reels);
            return count(0);
        }

        int undo() {
            if (keptReels == null) {
                return -3;
            }
            bases = keptBases.clone();
            reels = cloned(keptReels);
            deeds.clear();
            return count(0);
        }

        int count(int what) {
            int held = 0;
            for (ModelReel r : reels) {
                held += r == null ? 0 : 1;
            }
            int present = 0;
            for (long[] r : rows) {
                present += r == null ? 0 : 1;
            }
            return in(what, 0, 3) ? new int[] {held, deeds.size(), tape.length(), present}[what] : -2;
        }
    }

    private static final int[] FAR = {Integer.MIN_VALUE, Integer.MAX_VALUE, -2, 100, 1000};

    /** One run: a class, its model, and how its calls are chosen. */
    private static final class Run {
        final Dice dice;
        final SummedBases x = new SummedBases();
        final Model y = new Model();
        final List<String> log = new ArrayList<>();
        final int reelEnd;
        String call = "";
        long got;
        long want;

        Run(int n) {
            dice = new Dice(n);
            reelEnd = dice.oneIn(2) ? 2 : 6;
        }

        int index(int end) {
            return dice.oneIn(60) ? dice.oneIn(3) ? FAR[dice.upTo(FAR.length)] : dice.oneIn(2) ? -1 : end : dice.upTo(end);
        }

        int reel() {
            return dice.oneIn(60) ? index(6) : dice.upTo(reelEnd);
        }

        int what(int most) {
            return dice.oneIn(60) ? dice.oneIn(2) ? -1 : most + 1 : dice.upTo(most + 1);
        }

        int place() {
            if (dice.oneIn(40)) {
                return FAR[dice.upTo(FAR.length)];
            }
            return dice.oneIn(3) ? dice.within(-1, 44) : dice.within(-1, 9);
        }

        long number() {
            switch (dice.upTo(8)) {
                case 0:
                    return dice.upTo(10);
                case 1:
                    return dice.upTo(1200000000);
                case 2: {
                    int b = dice.upTo(3);
                    return y.bases[b].top - dice.within(-2, 1100);
                }
                case 3: {
                    ModelBase b = y.bases[dice.upTo(3)];
                    return b.worths.get(dice.upTo(b.high())) + dice.within(-2, 2);
                }
                case 4:
                    return dice.oneIn(4) ? dice.bits() : dice.upTo(100000);
                case 5:
                    return dice.oneIn(6) ? dice.oneIn(2) ? Long.MAX_VALUE : NO : 1000000000L + dice.within(-2, 1);
                default:
                    return dice.upTo(3000);
            }
        }

        int digitNumber() {
            return dice.oneIn(25) ? dice.oneIn(2) ? -1 : 100 : dice.oneIn(3) ? dice.within(90, 99) : dice.upTo(12);
        }

        String text(String name, long... args) {
            StringBuilder s = new StringBuilder(name).append('(');
            for (int i = 0; i < args.length; i++) {
                s.append(i > 0 ? ", " : "").append(args[i]);
            }
            return s.append(')').toString();
        }

        void say(String name, long... args) {
            call = text(name, args);
        }

        void answers(long gotNow, long wantNow) {
            got = gotNow;
            want = wantNow;
            log.add(call + " = " + want);
        }

        void tellBase() {
            int b = index(3);
            int n = dice.oneIn(30) ? dice.within(-1, 10) : dice.within(1, 8);
            int most = dice.oneIn(2) ? 2 : 9;
            int steps = 0;
            for (int i = 0; i < Math.max(1, Math.min(n, 9)); i++) {
                steps = steps * 10 + (dice.oneIn(80) ? 0 : dice.oneIn(3) ? dice.within(1, most) : 1);
            }
            if (dice.oneIn(30)) {
                steps = dice.oneIn(2) ? -steps : dice.oneIn(2) ? steps / 10 : (int) dice.bits();
            }
            say("base", b, n, steps);
            answers(x.base(b, n, steps), y.base(b, n, steps));
        }

        void feedOne() {
            String likely = "0123456789..........";
            int letter = dice.oneIn(40) ? dice.within(-1, 128) : likely.charAt(dice.upTo(likely.length()));
            say("feed", letter);
            answers(x.feed(letter), y.feed(letter));
        }

        /** A byte such as a text has next, so that many are read. */
        void feedFit() {
            int n = y.tape.length();
            boolean point = n > 0 && y.tape.charAt(n - 1) != '.' && !dice.oneIn(4);
            int letter = dice.oneIn(60) ? '.' : point ? '.' : dice.within('0', '9');
            say("feed", letter);
            answers(x.feed(letter), y.feed(letter));
        }

        void step(int focus) {
            int n = dice.oneIn(3) ? focus : dice.upTo(36);
            if (n < 12) {
                stepOfReels(n);
            } else if (n < 24) {
                stepOfNumbers(n);
            } else {
                stepOfRows(n);
            }
        }

        void stepOfReels(int n) {
            int r = reel();
            int b = index(3);
            int k = place();
            int what = what(3);
            long v = number();
            switch (n) {
                case 0: if (dice.oneIn(3)) { tellBase(); } else { feedFit(); } break;
                case 1: say("of", b, what); answers(x.of(b, what), y.of(b, what)); break;
                case 2: say("worth", b, k, what); answers(x.worth(b, k, what), y.worth(b, k, what)); break;
                case 3: say("top", b); answers(x.top(b), y.top(b)); break;
                case 4: say("taken", b, what); answers(x.taken(b, what), y.taken(b, what)); break;
                case 5: say("write", r, b, v); answers(x.write(r, b, v), y.write(r, b, v)); break;
                case 6: if (!dice.oneIn(3)) { feedFit(); break; } say("empty", r); answers(x.empty(r), y.empty(r)); break;
                case 7: say("told", r, what); answers(x.told(r, what), y.told(r, what)); break;
                case 8: say("at", r, k); answers(x.at(r, k), y.at(r, k)); break;
                case 9: say("value", r); answers(x.value(r), y.value(r)); break;
                default:
                    int d = digitNumber();
                    say("digit", r, k, d);
                    answers(x.digit(r, k, d), y.digit(r, k, d));
            }
        }

        void stepOfNumbers(int n) {
            int r = reel();
            int other = reel();
            int b = index(3);
            int k = place();
            long v = number();
            switch (n) {
                case 12: say("borrow", r, k); answers(x.borrow(r, k), y.move(r, k, -1)); break;
                case 13: say("carry", r, k); answers(x.carry(r, k), y.move(r, k, 1)); break;
                case 14: say("settle", r); answers(x.settle(r), y.settle(r)); break;
                case 15: say("right", r); answers(x.right(r), y.right(r)); break;
                case 16: {
                    int s = dice.within(-10, 10);
                    say("shift", r, s);
                    answers(x.shift(r, s), y.shift(r, s));
                    break;
                }
                case 17: {
                    int t = dice.oneIn(3) ? dice.within(-100002, 100002) : dice.within(-3, 3);
                    say("on", r, t);
                    answers(x.on(r, t), y.on(r, t));
                    break;
                }
                case 18: say("soon", r, k); answers(x.soon(r, k), y.soon(r, k)); break;
                case 19: {
                    int to = reel();
                    int what = what(4);
                    say("sum", r, other, to, what);
                    answers(x.sum(r, other, to, what), y.sum(r, other, to, what));
                    break;
                }
                case 20: {
                    int what = what(1);
                    say("like", r, other, what);
                    answers(x.like(r, other, what), y.like(r, other, what));
                    break;
                }
                case 21: {
                    if (!dice.oneIn(8)) {
                        feedFit();
                        break;
                    }
                    int m = dice.oneIn(20) ? dice.oneIn(2) ? 0 : 10 : dice.within(1, 9);
                    int what = what(1);
                    say("ways", b, v, m, what);
                    answers(x.ways(b, v, m, what), y.ways(b, v, m, what));
                    break;
                }
                case 22: {
                    int c = index(3);
                    say("crossed", b, c, v);
                    answers(x.crossed(b, c, v), y.crossed(b, c, v));
                    break;
                }
                default:
                    int byteNumber = dice.oneIn(2) ? -1 : dice.within(-2, 40);
                    say("print", r, byteNumber);
                    answers(x.print(r, byteNumber), y.print(r, byteNumber));
            }
        }

        void stepOfRows(int n) {
            int r = reel();
            int b = index(3);
            int row = index(3);
            int i = dice.oneIn(40) ? FAR[dice.upTo(FAR.length)] : dice.within(-1, 12);
            switch (n) {
                case 24: feedOne(); break;
                case 25: feedFit(); break;
                case 26: if (!dice.oneIn(8)) { feedFit(); break; } say("read", r, b); answers(x.read(r, b), y.read(r, b)); break;
                case 27: say("back"); answers(x.back(), y.back()); break;
                case 28: {
                    int size = dice.oneIn(10) ? dice.within(-3, 62) : dice.within(-1, 14);
                    say("row", row, size);
                    answers(x.row(row, size), y.row(row, size));
                    break;
                }
                case 29: {
                    long v = dice.oneIn(12) ? number() : digitNumber();
                    say("put", row, i, v);
                    answers(x.put(row, i, v), y.put(row, i, v));
                    break;
                }
                case 30: say("get", row, i); answers(x.get(row, i), y.get(row, i)); break;
                case 31: {
                    int other = index(3);
                    int j = dice.oneIn(40) ? FAR[dice.upTo(FAR.length)] : dice.within(-1, 12);
                    int size = dice.oneIn(40) ? FAR[dice.upTo(FAR.length)] : dice.within(-1, 8);
                    say("copy", row, i, other, j, size);
                    answers(x.copy(row, i, other, j, size), y.copy(row, i, other, j, size));
                    break;
                }
                case 32: say("lay", r, b, row); answers(x.lay(r, b, row), y.lay(r, b, row)); break;
                case 33: say("film", r, row); answers(x.film(r, row), y.film(r, row)); break;
                case 34: {
                    boolean keep = dice.oneIn(2);
                    call = keep ? "image()" : "undo()";
                    if (!dice.oneIn(4)) {
                        feedFit();
                    } else if (keep) {
                        answers(x.image(), y.image());
                    } else {
                        answers(x.undo(), y.undo());
                    }
                    break;
                }
                default:
                    int what = what(3);
                    say("count", what);
                    answers(x.count(what), y.count(what));
            }
        }

        /** Whether every call of the run, and all that can be seen at its end, is as the model tells. */
        boolean isAsDue() {
            int focus = dice.upTo(36);
            for (int n = 0; n < CALLS; n++) {
                if (dice.oneIn(40)) {
                    focus = dice.upTo(36);
                }
                step(focus);
                if (got != want) {
                    return false;
                }
            }
            return true;
        }

        void printLog() {
            for (String line : log) {
                System.out.println("    " + line);
            }
            System.out.println("    the last of them answered " + got);
        }
    }

    public static void main(String[] args) {
        int wrong = 0;
        for (int n = 0; n < RUNS && wrong < 3; n++) {
            Run run = new Run(n);
            if (!run.isAsDue()) {
                wrong++;
                System.out.println("run " + n + ", with what is due:");
                run.printLog();
            }
        }
        System.out.println(wrong == 0 ? RUNS + " runs are as the model tells" : wrong + " runs are not as due");
        if (wrong != 0) {
            System.exit(1);
        }
    }
}
