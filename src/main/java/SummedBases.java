/** Numbers told by summed bases: see README.md, and for each call the promise of its name in DOC.md. */
public final class SummedBases {
    public static final int NONE = -1, BAD = -2, STATE = -3, FULL = -4;
    public static final long NO = Long.MIN_VALUE;

    private static final int MISSING = -11;
    private static final int OUTSIDE = -12;
    private static final int UNLIKE = -13;
    private static final int BELOW_SIZE = -14;
    private static final int FAULT_BASE = -100;

    private static final int BASES = 3;
    private static final int REELS = 6;
    private static final int ROWS = 3;

    private static final int MOST_STEPS = 8;
    private static final long MOST_WORTH = 1000000000L;
    /** As many worths as the base has that grows slowest, the one of step 1. */
    private static final int MOST_HIGH = 43;
    private static final int MOST_DIGIT = 99;
    /** Two figures and a point for each place, without the last point. */
    private static final int MOST_PRINTED = MOST_HIGH * 3 - 1;

    private static final int MOST_SHIFT = 9;
    private static final int MOST_ON = 100000;
    private static final int MOST_SOON = 1000;
    private static final int MOST_TIMES = 9;

    private static final int MIXED = 0;
    private static final int EVEN = 1;
    private static final int GOLDEN = 2;
    private static final int SILVER = 3;

    private static final int ZERO = '0';
    private static final int NINE = '9';
    private static final int POINT = '.';

    private final Base[] bases = new Base[BASES];
    private final Reel[] reels = new Reel[REELS];
    private final LongRow[] rows = new LongRow[ROWS];
    private final Tape tape = new Tape();
    private final Deeds deeds = new Deeds();
    private final Makings makings = new Makings();

    private final Base[] keptBases = new Base[BASES];
    private final Reel[] keptReels = new Reel[REELS];
    private boolean imageKept = false;

    /** Rows to work in, made once, since all that a run makes is counted. */
    private final int[] draft = new int[MOST_HIGH];
    private final int[] otherDraft = new int[MOST_HIGH];
    private final int[] page = new int[MOST_PRINTED];

    public SummedBases() {
        for (int i = 0; i < BASES; i++) {
            bases[i] = new Base(i);
            keptBases[i] = new Base(i);
        }
        for (int i = 0; i < REELS; i++) {
            reels[i] = new Reel();
            keptReels[i] = new Reel();
        }
        for (int i = 0; i < ROWS; i++) {
            rows[i] = new LongRow();
        }
    }

    // ---- bases

    public int base(int base, int n, int steps) {
        Base told = baseAt(base);
        if (told == null || !Base.isRowOfSteps(n, steps)) {
            return BAD;
        }
        told.tell(n, steps);
        for (int i = 0; i < REELS; i++) {
            Reel held = reelAt(i);
            if (held != null && held.base == told) {
                clearReel(i);
            }
        }
        return told.high;
    }

    public int of(int base, int what) {
        Base asked = baseAt(base);
        if (asked == null || !isWithin(what, 0, 2)) {
            return BAD;
        }
        if (what == 0) {
            return asked.kind();
        }
        return what == 1 ? asked.stepCount : asked.high;
    }

    public long worth(int base, int k, int what) {
        Base asked = baseAt(base);
        if (asked == null || !asked.hasPlace(k) || !isWithin(what, 0, 1)) {
            return NO;
        }
        return what == 0 ? asked.worths[k] : asked.steps[k];
    }

    public long top(int base) {
        Base asked = baseAt(base);
        return asked == null ? NO : asked.top;
    }

    public int taken(int base, int k) {
        Base asked = baseAt(base);
        if (asked == null || !isWithin(k, MIXED, SILVER)) {
            return BAD;
        }
        int kind = asked.kind();
        return isUnder(kind, k) ? kind : UNLIKE;
    }

    // ---- reels

    public int write(int reel, int base, long v) {
        Base asked = baseAt(base);
        if (reelAt(reel) == null || asked == null || v < 0) {
            return BAD;
        }
        if (v > asked.top) {
            return STATE;
        }
        asked.greedyInto(draft, v);
        return fillReel(reel, asked, draft);
    }

    public int empty(int reel) {
        Reel held = reelAt(reel);
        if (held == null) {
            return BAD;
        }
        if (held.base == null) {
            return MISSING;
        }
        clearReel(reel);
        return 1;
    }

    public int told(int reel, int what) {
        Reel held = reelAt(reel);
        if (held == null || !isWithin(what, 0, 3)) {
            return BAD;
        }
        Base base = held.base;
        if (base == null) {
            return MISSING;
        }
        switch (what) {
            case 0:
                return base.number;
            case 1:
                return base.allows(held.digits) ? 1 : 0;
            case 2:
                return countNotZero(held.digits);
            default:
                return highestNotZero(held.digits);
        }
    }

    public int at(int reel, int k) {
        Reel held = reelAt(reel);
        if (held == null) {
            return BAD;
        }
        Base base = held.base;
        if (base == null) {
            return MISSING;
        }
        return base.hasPlace(k) ? held.digits[k] : OUTSIDE;
    }

    public long value(int reel) {
        Reel held = reelAt(reel);
        if (held == null) {
            return NO;
        }
        Base base = held.base;
        return base == null ? NO : base.valueOf(held.digits);
    }

    public int digit(int reel, int k, int d) {
        Reel held = reelAt(reel);
        if (held == null || !isWithin(d, 0, MOST_DIGIT)) {
            return BAD;
        }
        Base base = held.base;
        if (base == null) {
            return MISSING;
        }
        if (!base.hasPlace(k)) {
            return OUTSIDE;
        }
        deeds.keep(reel, held.digits);
        int was = held.digits[k];
        held.digits[k] = d;
        return was;
    }

    public int borrow(int reel, int k) {
        int done = exchange(reel, k, -1);
        return done == 1 ? at(reel, k) : done;
    }

    public int carry(int reel, int k) {
        int done = exchange(reel, k, 1);
        return done == 1 ? at(reel, k + 1) : done;
    }

    public int settle(int reel) {
        Reel held = reelAt(reel);
        if (held == null) {
            return BAD;
        }
        Base base = held.base;
        if (base == null) {
            return MISSING;
        }
        deeds.keep(reel, held.digits);
        return base.settleAll(held.digits);
    }

    public int right(int reel) {
        Reel held = reelAt(reel);
        if (held == null) {
            return BAD;
        }
        Base base = held.base;
        if (base == null) {
            return MISSING;
        }
        long v = base.valueOf(held.digits);
        return v > base.top ? STATE : turnTo(reel, base, held.digits, v);
    }

    public int shift(int reel, int n) {
        Reel held = reelAt(reel);
        if (held == null || !isWithin(n, -MOST_SHIFT, MOST_SHIFT)) {
            return BAD;
        }
        Base base = held.base;
        if (base == null) {
            return MISSING;
        }
        deeds.keep(reel, held.digits);
        int before = countNotZero(held.digits);
        base.shiftInto(draft, held.digits, n);
        copyDigits(draft, held.digits);
        return before - countNotZero(held.digits);
    }

    public int on(int reel, int t) {
        Reel held = reelAt(reel);
        if (held == null || !isWithin(t, -MOST_ON, MOST_ON)) {
            return BAD;
        }
        Base base = held.base;
        if (base == null) {
            return MISSING;
        }
        if (!base.allows(held.digits)) {
            return STATE;
        }
        long v = base.valueOf(held.digits) + t;
        return v < 0 || v > base.top ? FULL : turnTo(reel, base, held.digits, v);
    }

    public int soon(int reel, int k) {
        Reel held = reelAt(reel);
        if (held == null) {
            return BAD;
        }
        Base base = held.base;
        if (base == null) {
            return MISSING;
        }
        if (!base.hasPlace(k)) {
            return OUTSIDE;
        }
        if (!base.allows(held.digits)) {
            return STATE;
        }
        long ahead = base.turnAhead(held.digits, k);
        boolean inTime = ahead <= MOST_SOON && base.valueOf(held.digits) + ahead <= base.top;
        return inTime ? (int) ahead : NONE;
    }

    // ---- two reels

    public int sum(int one, int other, int to, int what) {
        Reel first = reelAt(one);
        Reel second = reelAt(other);
        if (first == null || second == null || reelAt(to) == null || !isWithin(what, 0, 4)) {
            return BAD;
        }
        Base base = first.base;
        if (base == null || second.base == null) {
            return MISSING;
        }
        if (base != second.base) {
            return UNLIKE;
        }
        if (what == 0) {
            return addInto(draft, first.digits, second.digits) ? fillReel(to, base, draft) : STATE;
        }
        long v = reckon(base.valueOf(first.digits), base.valueOf(second.digits), what, base.top);
        return v < 0 || v > base.top ? STATE : write(to, base.number, v);
    }

    public int like(int one, int other, int what) {
        Reel first = reelAt(one);
        Reel second = reelAt(other);
        if (first == null || second == null || !isWithin(what, 0, 1)) {
            return BAD;
        }
        Base base = first.base;
        Base otherBase = second.base;
        if (base == null || otherBase == null) {
            return MISSING;
        }
        boolean alike = what == 0
            ? base.valueOf(first.digits) == otherBase.valueOf(second.digits)
            : base == otherBase && countUnlike(first.digits, second.digits) == 0;
        return alike ? 1 : 0;
    }

    // ---- numbers

    public long ways(int base, long v, int m, int what) {
        Base asked = baseAt(base);
        if (asked == null || v < 0 || v > MOST_WORTH || !isWithin(m, 1, MOST_TIMES) || !isWithin(what, 0, 1)) {
            return NO;
        }
        Rests end = makings.make(asked, v, m);
        if (end.size == 0) {
            return what == 0 ? 0 : NONE;
        }
        return what == 0 ? end.ways[0] : end.fewest[0];
    }

    public int crossed(int base, int other, long v) {
        Base first = baseAt(base);
        Base second = baseAt(other);
        if (first == null || second == null || v < 0) {
            return BAD;
        }
        if (v > first.top || v > second.top) {
            return STATE;
        }
        first.greedyInto(draft, v);
        second.greedyInto(otherDraft, v);
        int alike = 0;
        for (int k = 0; k < MOST_HIGH; k++) {
            if (first.hasPlace(k) && second.hasPlace(k) && draft[k] == otherDraft[k]) {
                alike++;
            }
        }
        return alike;
    }

    // ---- texts

    public int print(int reel, int k) {
        Reel held = reelAt(reel);
        if (held == null || k < -1) {
            return BAD;
        }
        if (held.base == null) {
            return MISSING;
        }
        int size = printInto(page, held.digits);
        if (k == -1) {
            return size;
        }
        return k < size ? page[k] : OUTSIDE;
    }

    public int feed(int letter) {
        if (!isWithin(letter, 0, Tape.MOST_LETTER)) {
            return BAD;
        }
        return tape.add(letter) ? tape.size : FULL;
    }

    public int read(int reel, int base) {
        Base asked = baseAt(base);
        if (reelAt(reel) == null || asked == null) {
            return BAD;
        }
        int fault = tape.fault(asked.high);
        int answer = FAULT_BASE - fault;
        if (fault == NONE) {
            answer = tape.numbersInto(draft);
            fillReel(reel, asked, draft);
        }
        tape.size = 0;
        return answer;
    }

    // ---- deeds, rows

    public int back() {
        if (deeds.count == 0) {
            return STATE;
        }
        Reel held = reelAt(deeds.latestReel());
        if (held != null) {
            deeds.takeLatest(held.digits);
        }
        return deeds.count;
    }

    public int row(int row, int n) {
        LongRow told = rowAt(row);
        if (told == null || n > LongRow.MOST) {
            return BAD;
        }
        if (n < -1) {
            return BELOW_SIZE;
        }
        told.become(n);
        return 1;
    }

    public int put(int row, int i, long v) {
        LongRow told = rowAt(row);
        if (told == null) {
            return BAD;
        }
        if (told.isMissing()) {
            return MISSING;
        }
        if (!told.hasPlace(i)) {
            return OUTSIDE;
        }
        told.numbers[i] = v;
        return 1;
    }

    public long get(int row, int i) {
        LongRow asked = rowAt(row);
        return asked == null || !asked.hasPlace(i) ? NO : asked.numbers[i];
    }

    public int copy(int row, int i, int other, int j, int n) {
        LongRow from = rowAt(row);
        LongRow to = rowAt(other);
        if (from == null || to == null) {
            return BAD;
        }
        if (from.isMissing() || to.isMissing()) {
            return MISSING;
        }
        if (!from.hasRange(i, n) || !to.hasRange(j, n)) {
            return OUTSIDE;
        }
        System.arraycopy(from.numbers, i, to.numbers, j, n);
        return n;
    }

    public int lay(int reel, int base, int row) {
        Base asked = baseAt(base);
        LongRow told = rowAt(row);
        if (reelAt(reel) == null || asked == null || told == null) {
            return BAD;
        }
        if (told.isMissing()) {
            return MISSING;
        }
        return told.digitsInto(draft, asked.high) ? fillReel(reel, asked, draft) : STATE;
    }

    public int film(int reel, int row) {
        Reel held = reelAt(reel);
        LongRow told = rowAt(row);
        if (held == null || told == null) {
            return BAD;
        }
        Base base = held.base;
        if (base == null) {
            return MISSING;
        }
        told.become(base.high);
        for (int k = 0; k < held.digits.length && told.hasPlace(k); k++) {
            told.numbers[k] = held.digits[k];
        }
        return base.high;
    }

    // ---- the image

    public int image() {
        carryState(bases, reels, keptBases, keptReels);
        imageKept = true;
        return countReels();
    }

    public int undo() {
        if (!imageKept) {
            return STATE;
        }
        carryState(keptBases, keptReels, bases, reels);
        deeds.count = 0;
        return countReels();
    }

    public int count(int what) {
        switch (what) {
            case 0:
                return countReels();
            case 1:
                return deeds.count;
            case 2:
                return tape.size;
            case 3:
                return countRows();
            default:
                return BAD;
        }
    }

    // ---- what the calls share

    private static boolean isWithin(int n, int least, int most) {
        return n >= least && n <= most;
    }

    private Base baseAt(int i) {
        return isWithin(i, 0, BASES - 1) ? bases[i] : null;
    }

    private Reel reelAt(int i) {
        return isWithin(i, 0, REELS - 1) ? reels[i] : null;
    }

    private LongRow rowAt(int i) {
        return isWithin(i, 0, ROWS - 1) ? rows[i] : null;
    }

    private static boolean isUnder(int kind, int over) {
        return over == MIXED || kind == over || over == EVEN && kind != MIXED;
    }

    /** A reel holds other digits by no deed, so those it had go; how many digits are not 0. */
    private int fillReel(int i, Base base, int[] digits) {
        Reel held = reelAt(i);
        if (held == null) {
            return BAD;
        }
        held.base = base;
        copyDigits(digits, held.digits);
        deeds.forget(i);
        return countNotZero(held.digits);
    }

    private void clearReel(int i) {
        Reel held = reelAt(i);
        if (held != null) {
            held.base = null;
            deeds.forget(i);
        }
    }

    /** A CARRY at place k by 1, a BORROW by -1: 1, or why it is refused. */
    private int exchange(int reel, int k, int by) {
        Reel held = reelAt(reel);
        if (held == null) {
            return BAD;
        }
        Base base = held.base;
        if (base == null) {
            return MISSING;
        }
        if (!isWithin(k, 0, base.high - 2)) {
            return OUTSIDE;
        }
        if (!base.canCarry(held.digits, k, by)) {
            return STATE;
        }
        deeds.keep(reel, held.digits);
        base.carryOnce(held.digits, k, by);
        return 1;
    }

    /** A deed by which a reel's digits are the GREEDY of v: how many are otherwise. */
    private int turnTo(int reel, Base base, int[] digits, long v) {
        deeds.keep(reel, digits);
        base.greedyInto(draft, v);
        int turned = countUnlike(digits, draft);
        copyDigits(draft, digits);
        return turned;
    }

    /** What sum() is to write of two values: less (1), times (2), by (3), the rest of that (4); NO where there is none. */
    private static long reckon(long one, long other, int what, long top) {
        if (what == 1) {
            return one - other;
        }
        if (what == 2) {
            return times(one, other, top);
        }
        if (other == 0) {
            return NO;
        }
        return what == 3 ? one / other : one % other;
    }

    /** The product of two numbers that are not below 0, NO if it is above top: looked at first, as it may be beyond a long. */
    private static long times(long one, long other, long top) {
        if (one == 0 || other == 0) {
            return 0;
        }
        return one > top / other ? NO : one * other;
    }

    private int countReels() {
        int n = 0;
        for (int i = 0; i < REELS; i++) {
            Reel held = reelAt(i);
            if (held != null && held.base != null) {
                n++;
            }
        }
        return n;
    }

    private int countRows() {
        int n = 0;
        for (int i = 0; i < ROWS; i++) {
            LongRow told = rowAt(i);
            if (told != null && !told.isMissing()) {
                n++;
            }
        }
        return n;
    }

    /** Lays bases and reels over others. Reels name their base by the live one, which stands at its number for good. */
    private static void carryState(Base[] fromBases, Reel[] fromReels, Base[] toBases, Reel[] toReels) {
        for (int i = 0; i < fromBases.length && i < toBases.length; i++) {
            if (fromBases[i] != null && toBases[i] != null) {
                toBases[i].becomeLike(fromBases[i]);
            }
        }
        for (int i = 0; i < fromReels.length && i < toReels.length; i++) {
            if (fromReels[i] != null && toReels[i] != null) {
                toReels[i].base = fromReels[i].base;
                copyDigits(fromReels[i].digits, toReels[i].digits);
            }
        }
    }

    // ---- digits, place 0 first; 0 at all places that their base has not

    private static void copyDigits(int[] from, int[] to) {
        System.arraycopy(from, 0, to, 0, Math.min(from.length, to.length));
    }

    private static int countNotZero(int[] digits) {
        int n = 0;
        for (int d : digits) {
            if (d != 0) {
                n++;
            }
        }
        return n;
    }

    private static int countUnlike(int[] one, int[] other) {
        int n = 0;
        for (int k = 0; k < one.length && k < other.length; k++) {
            if (one[k] != other[k]) {
                n++;
            }
        }
        return n;
    }

    private static int highestNotZero(int[] digits) {
        for (int k = digits.length - 1; k >= 0; k--) {
            if (digits[k] != 0) {
                return k;
            }
        }
        return NONE;
    }

    /** Two numerals together, place by place; whether every digit of that may be. */
    private static boolean addInto(int[] to, int[] one, int[] other) {
        for (int k = 0; k < to.length && k < one.length && k < other.length; k++) {
            to[k] = one[k] + other[k];
            if (to[k] > MOST_DIGIT) {
                return false;
            }
        }
        return true;
    }

    /** The bytes of digits as they are PRINTED: how many. */
    private static int printInto(int[] page, int[] digits) {
        int size = 0;
        for (int k = Math.max(highestNotZero(digits), 0); k >= 0 && k < digits.length; k--) {
            int d = digits[k];
            if (d > 9 && size < page.length) {
                page[size++] = ZERO + d / 10;
            }
            if (size < page.length) {
                page[size++] = ZERO + d % 10;
            }
            if (k > 0 && size < page.length) {
                page[size++] = POINT;
            }
        }
        return size;
    }

    /** A row of steps, and the worths made by them. */
    private static final class Base {
        final int number;
        /** Of each place, so the row counted on round it. */
        final int[] steps = new int[MOST_HIGH];
        final long[] worths = new long[MOST_HIGH];
        int stepCount;
        int high;
        long top;

        Base(int number) {
            this.number = number;
            tell(1, 1);
        }

        static boolean isRowOfSteps(int n, int row) {
            if (!isWithin(n, 1, MOST_STEPS) || row < 0) {
                return false;
            }
            int left = row;
            for (int i = 0; i < n; i++) {
                if (left % 10 == 0) {
                    return false;
                }
                left = left / 10;
            }
            return left == 0;
        }

        void tell(int n, int row) {
            stepCount = Math.max(1, Math.min(n, MOST_STEPS));
            int left = row;
            for (int k = stepCount - 1; k >= 0; k--) {
                steps[k] = left % 10;
                left = left / 10;
            }
            for (int k = stepCount; k < steps.length; k++) {
                steps[k] = steps[k - stepCount];
            }
            makeWorths();
        }

        /** With 1 below W0 each worth is made alike, W1 too; TOP is 1 less than the first worth that is too great. */
        private void makeWorths() {
            long below = 1;
            long worth = 1;
            for (int k = 0; k < worths.length && worth <= MOST_WORTH; k++) {
                worths[k] = worth;
                high = k + 1;
                long above = steps[k] * worth + below;
                below = worth;
                worth = above;
            }
            top = worth - 1;
        }

        void becomeLike(Base other) {
            stepCount = other.stepCount;
            high = other.high;
            top = other.top;
            System.arraycopy(other.steps, 0, steps, 0, steps.length);
            System.arraycopy(other.worths, 0, worths, 0, worths.length);
        }

        int kind() {
            for (int k = 1; k < stepCount && k < steps.length; k++) {
                if (steps[k] != steps[0]) {
                    return MIXED;
                }
            }
            if (steps[0] == 1) {
                return GOLDEN;
            }
            return steps[0] == 2 ? SILVER : EVEN;
        }

        boolean hasPlace(int k) {
            return k >= 0 && k < high && k < MOST_HIGH;
        }

        long valueOf(int[] digits) {
            return valueBelow(digits, high);
        }

        private long valueBelow(int[] digits, int end) {
            long v = 0;
            for (int k = 0; k < end && k < digits.length && k < worths.length; k++) {
                v += digits[k] * worths[k];
            }
            return v;
        }

        /** Whether digits are LEGAL. */
        boolean allows(int[] digits) {
            for (int k = 0; k < digits.length && k < steps.length; k++) {
                if (digits[k] > steps[k] || digits[k] == steps[k] && k > 0 && digits[k - 1] != 0) {
                    return false;
                }
            }
            return true;
        }

        void greedyInto(int[] digits, long v) {
            long left = v;
            for (int k = digits.length - 1; k >= 0; k--) {
                long worth = hasPlace(k) ? worths[k] : 0;
                long times = worth > 0 ? left / worth : 0;
                digits[k] = (int) times;
                left -= times * worth;
            }
        }

        /** By how many a CARRY at place k makes digit k less: at place 0 what would go to the one below, too. */
        private int carried(int k) {
            return k == 0 ? steps[0] + 1 : steps[k];
        }

        boolean canCarry(int[] digits, int k, int by) {
            if (!hasPlace(k) || !hasPlace(k + 1)) {
                return false;
            }
            return isDigit(digits[k + 1] + by)
                && isDigit(digits[k] - by * carried(k))
                && (k == 0 || isDigit(digits[k - 1] - by));
        }

        void carryOnce(int[] digits, int k, int by) {
            if (!canCarry(digits, k, by)) {
                return;
            }
            digits[k + 1] += by;
            digits[k] -= by * carried(k);
            if (k > 0) {
                digits[k - 1] -= by;
            }
        }

        /** How many CARRIES till there is none: each makes all digits together less, so they can't be more than that. */
        int settleAll(int[] digits) {
            int k = high - 2;
            for (int n = 0; n < MOST_HIGH * MOST_DIGIT; n++) {
                k = highestCarry(digits, k);
                if (k < 0) {
                    return n;
                }
                carryOnce(digits, k, 1);
                // digit k + 1 being greater helps the places k + 1 and k + 2, none above them
                k = Math.min(k + 2, high - 2);
            }
            return MOST_HIGH * MOST_DIGIT;
        }

        private int highestCarry(int[] digits, int from) {
            for (int k = from; k >= 0; k--) {
                if (canCarry(digits, k, 1)) {
                    return k;
                }
            }
            return NONE;
        }

        void shiftInto(int[] to, int[] digits, int n) {
            for (int k = 0; k < to.length; k++) {
                int from = k - n;
                to[k] = hasPlace(k) && hasPlace(from) ? digits[from] : 0;
            }
        }

        /**
         * How far on from LEGAL digits the one at place k is otherwise first, were there no TOP. It turns as those
         * below it have no more room; but a 0 below a digit that is its whole step stays, as that one turns to 0
         * instead, and turns the next time.
         */
        long turnAhead(int[] digits, int k) {
            if (!hasPlace(k)) {
                return NO;
            }
            boolean whole = k > 0 && digits[k] == steps[k];
            long room = whole ? worths[k - 1] : worths[k];
            long ahead = room - valueBelow(digits, k);
            boolean stays = digits[k] == 0 && hasPlace(k + 1) && digits[k + 1] == steps[k + 1];
            return stays ? ahead + worths[k] : ahead;
        }

        private static boolean isDigit(int d) {
            return isWithin(d, 0, MOST_DIGIT);
        }
    }

    /** A numeral of a base; empty while that is null. */
    private static final class Reel {
        Base base = null;
        final int[] digits = new int[MOST_HIGH];
    }

    /** Reels' digits as they were ahead of the latest deeds, the eldest first. */
    private static final class Deeds {
        static final int MOST = 12;
        private final int[] reels = new int[MOST];
        private final int[] digits = new int[MOST * MOST_HIGH];
        int count = 0;

        void keep(int reel, int[] now) {
            if (count >= MOST) {
                dropEldest();
            }
            reels[count] = reel;
            System.arraycopy(now, 0, digits, count * MOST_HIGH, Math.min(now.length, MOST_HIGH));
            count++;
        }

        private void dropEldest() {
            for (int i = 1; i < MOST; i++) {
                move(i, i - 1);
            }
            count = MOST - 1;
        }

        private void move(int from, int to) {
            reels[to] = reels[from];
            System.arraycopy(digits, from * MOST_HIGH, digits, to * MOST_HIGH, MOST_HIGH);
        }

        void forget(int reel) {
            int left = 0;
            for (int i = 0; i < count && i < MOST; i++) {
                if (reels[i] != reel) {
                    move(i, left);
                    left++;
                }
            }
            count = left;
        }

        int latestReel() {
            return isWithin(count, 1, MOST) ? reels[count - 1] : NONE;
        }

        void takeLatest(int[] to) {
            if (isWithin(count, 1, MOST)) {
                count--;
                System.arraycopy(digits, count * MOST_HIGH, to, 0, Math.min(to.length, MOST_HIGH));
            }
        }
    }

    /** Bytes that come one by one, to be read as a text. */
    private static final class Tape {
        static final int MOST_LETTER = 127;
        private static final int MOST = 80;
        private static final int MOST_FIGURES = 2;
        private final int[] letters = new int[MOST];
        int size = 0;

        boolean add(int letter) {
            if (size >= MOST) {
                return false;
            }
            letters[size] = letter;
            size++;
            return true;
        }

        /** The FAULT of the text, NONE if it has no more numbers than most and all of it is as it should. */
        int fault(int most) {
            int numbers = 0;
            int figures = 0;
            for (int i = 0; i < size && i < MOST; i++) {
                if (isFigure(letters[i])) {
                    if (figures == MOST_FIGURES || figures == 0 && numbers == most) {
                        return i;
                    }
                    numbers = figures == 0 ? numbers + 1 : numbers;
                    figures++;
                } else if (letters[i] == POINT && figures > 0) {
                    figures = 0;
                } else {
                    return i;
                }
            }
            return figures == 0 ? size : NONE;
        }

        /** The numbers of a text that has no FAULT, the last of them at place 0: how many. */
        int numbersInto(int[] digits) {
            for (int k = 0; k < digits.length; k++) {
                digits[k] = 0;
            }
            int place = 0;
            int unit = 1;
            for (int i = Math.min(size, MOST) - 1; i >= 0; i--) {
                if (letters[i] == POINT) {
                    place++;
                    unit = 1;
                } else if (place < digits.length) {
                    digits[place] += (letters[i] - ZERO) * unit;
                    unit = 10;
                }
            }
            return place + 1;
        }

        private static boolean isFigure(int letter) {
            return isWithin(letter, ZERO, NINE);
        }
    }

    private static final class LongRow {
        static final int MOST = 60;
        final long[] numbers = new long[MOST];
        /** NONE while it is missing. */
        private int size = NONE;

        boolean isMissing() {
            return size == NONE;
        }

        boolean hasPlace(int i) {
            return i >= 0 && i < size && i < MOST;
        }

        boolean hasRange(int i, int n) {
            return i >= 0 && n >= 0 && i <= size && n <= size - i;
        }

        void become(int n) {
            size = Math.max(NONE, Math.min(n, MOST));
            for (int i = 0; i < MOST; i++) {
                numbers[i] = 0;
            }
        }

        /** The row as digits, 0 behind its end; whether it has no more than high and every number may be one. */
        boolean digitsInto(int[] digits, int high) {
            if (size > high) {
                return false;
            }
            for (int k = 0; k < digits.length; k++) {
                long d = hasPlace(k) ? numbers[k] : 0;
                if (d < 0 || d > MOST_DIGIT) {
                    return false;
                }
                digits[k] = (int) d;
            }
            return true;
        }
    }

    /** What may be left of a number as its greater worths are taken, ascending; in how many ways, by how few worths. */
    private static final class Rests {
        /**
         * What is left when the worths from Wk on are taken is e times Wk and f times Wk-1, e and f whole, beyond the
         * number's own lower GREEDY digits. As it is never below 0 nor more than the lower worths make, nine times
         * each, f has no more than 65 values and e, for each of them, no more than 20.
         */
        static final int MOST = 1300;
        final long[] rests = new long[MOST];
        final long[] ways = new long[MOST];
        final int[] fewest = new int[MOST];
        int size = 0;

        void add(long rest, long inWays, int byFew) {
            if (size > 0 && size <= MOST && rests[size - 1] == rest) {
                ways[size - 1] += inWays;
                fewest[size - 1] = Math.min(fewest[size - 1], byFew);
            } else if (size < MOST) {
                rests[size] = rest;
                ways[size] = inWays;
                fewest[size] = byFew;
                size++;
            }
        }
    }

    /** Makes a number of worths, from the greatest down. */
    private static final class Makings {
        private Rests from = new Rests();
        private Rests to = new Rests();
        /** For each count of times that a worth may be taken: which of the rests is next to be made less by so many. */
        private final int[] next = new int[MOST_TIMES + 1];

        /** At its end no rest but 0, or none where the number can't be made. */
        Rests make(Base base, long v, int m) {
            long room = 0;
            for (int k = 0; k < MOST_HIGH && base.hasPlace(k); k++) {
                room += m * base.worths[k];
            }
            to.size = 0;
            to.add(v, 1, 0);
            for (int k = base.high - 1; k >= 0 && base.hasPlace(k); k--) {
                room -= m * base.worths[k];
                Rests made = to;
                to = from;
                from = made;
                take(base.worths[k], m, room);
            }
            return to;
        }

        /** Each rest less the worth, 0 to m times, where what lower worths make has room for it: m + 1 rows made one. */
        private void take(long worth, int m, long room) {
            to.size = 0;
            for (int c = 0; c <= m && c < next.length; c++) {
                next[c] = firstFrom(c * worth);
            }
            int candidates = from.size * (m + 1);
            for (int n = 0; n < candidates; n++) {
                int c = nextLeast(worth, m);
                if (c < 0 || c >= next.length || next[c] < 0 || next[c] >= from.size) {
                    return;
                }
                int i = next[c];
                long rest = from.rests[i] - c * worth;
                if (rest > room) {
                    return;
                }
                to.add(rest, from.ways[i], from.fewest[i] + c);
                next[c]++;
            }
        }

        private int firstFrom(long least) {
            for (int i = 0; i < from.size && i < Rests.MOST; i++) {
                if (from.rests[i] >= least) {
                    return i;
                }
            }
            return from.size;
        }

        /** How many times the worth is taken where the next rest is the least; NONE if there is no rest more. */
        private int nextLeast(long worth, int m) {
            int best = NONE;
            long least = 0;
            for (int c = 0; c <= m && c < next.length; c++) {
                int i = next[c];
                if (i < 0 || i >= from.size || i >= Rests.MOST) {
                    continue;
                }
                long rest = from.rests[i] - c * worth;
                if (best == NONE || rest < least) {
                    least = rest;
                    best = c;
                }
            }
            return best;
        }
    }
}
