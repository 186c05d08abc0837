import java.util.ArrayList;
import java.util.List;

/**
 * Every refusal that DOC.md names: that it is answered, just beyond each bound and far beyond it; that it is the first
 * which the call's words name, where two hold; that it changes nothing (but the tape, where that is told).
 */
public final class Refusals {
    private static final int BAD = -2;
    private static final int STATE = -3;
    private static final int FULL = -4;
    private static final int MISSING = -11;
    private static final int OUTSIDE = -12;
    private static final int UNLIKE = -13;
    private static final int BELOW_SIZE = -14;
    private static final long NO = Long.MIN_VALUE;
    private static final int LEAST = Integer.MIN_VALUE;
    private static final int MOST = Integer.MAX_VALUE;
    private static final long GOLDEN_TOP = 1134903169L;
    private static final long NINE_TOP = 4316254983L;

    /** What the reels of a filled object are. */
    private static final int LEGAL_REEL = 0;
    private static final int CROOKED_REEL = 1;
    private static final int TOP_REEL = 2;
    private static final int GREAT_REEL = 3;
    private static final int EMPTY_REEL = 4;
    private static final int ZERO_REEL = 5;

    /** What its rows are. */
    private static final int SHORT_ROW = 0;
    private static final int MISSING_ROW = 1;
    private static final int LONG_ROW = 2;

    private static int wrong = 0;
    private static int told = 0;

    private interface Call {
        long answer(SummedBases x);
    }

    private interface Making {
        SummedBases make();
    }

    private interface IndexedCall {
        long answer(SummedBases x, int index);
    }

    private record Refusal(String name, Call call, long due) {
    }

    private static final List<Refusal> FILLED = new ArrayList<>();

    private static void due(String call, long got, long want) {
        if (got != want) {
            wrong++;
            System.out.println(call + " answered " + got + ", due is " + want);
        }
    }

    // ---- objects to be asked

    /** Bases 1, 212 and 9; reels of many a kind, some with deeds; rows, a tape, an image that is otherwise. */
    private static SummedBases filled() {
        SummedBases x = new SummedBases();
        x.base(1, 2, 43);
        x.write(EMPTY_REEL, 1, 77);
        x.write(ZERO_REEL, 0, 55);
        x.image();
        x.base(1, 3, 212);
        x.base(2, 1, 9);
        x.empty(EMPTY_REEL);
        x.write(LEGAL_REEL, 0, 100);
        x.write(CROOKED_REEL, 1, 25);
        x.write(TOP_REEL, 2, NINE_TOP);
        x.write(GREAT_REEL, 0, 17);
        x.write(ZERO_REEL, 2, 0);
        x.digit(CROOKED_REEL, 0, 1);
        x.digit(GREAT_REEL, 42, 99);
        x.on(LEGAL_REEL, 1);
        x.digit(GREAT_REEL, 40, 99);
        x.on(TOP_REEL, 0);
        x.digit(CROOKED_REEL, 1, 99);
        x.row(SHORT_ROW, 3);
        x.put(SHORT_ROW, 0, 4);
        x.put(SHORT_ROW, 1, 100);
        x.put(SHORT_ROW, 2, 7);
        x.row(LONG_ROW, 44);
        x.feed('1');
        x.feed('.');
        x.feed('2');
        return x;
    }

    private static SummedBases fullTape() {
        SummedBases x = new SummedBases();
        for (int i = 0; i < 80; i++) {
            x.feed(i % 2 == 0 ? '1' : '.');
        }
        return x;
    }

    // ---- what can be seen of an object

    private static void look(StringBuilder seen, String what, long answer) {
        seen.append(what).append('=').append(answer).append(' ');
    }

    private static void lookAtBases(SummedBases x, StringBuilder seen) {
        for (int b = 0; b < 3; b++) {
            look(seen, "kind", x.of(b, 0));
            look(seen, "steps", x.of(b, 1));
            look(seen, "high", x.of(b, 2));
            look(seen, "top", x.top(b));
            for (int k = 0; k < 3; k++) {
                look(seen, "step" + k, x.worth(b, k, 1));
            }
        }
    }

    private static void lookAtValues(SummedBases x, StringBuilder seen) {
        for (int r = 0; r < 6; r++) {
            look(seen, "base", x.told(r, 0));
            look(seen, "value", x.value(r));
        }
    }

    private static void lookAtDigits(SummedBases x, StringBuilder seen) {
        for (int r = 0; r < 6; r++) {
            int high = x.of(x.told(r, 0), 2);
            for (int k = 0; k < high; k++) {
                look(seen, "at" + k, x.at(r, k));
            }
        }
    }

    private static void lookAtRows(SummedBases x, StringBuilder seen) {
        for (int r = 0; r < 3; r++) {
            long number = 0;
            for (int i = 0; i <= 60 && number != NO; i++) {
                number = x.get(r, i);
                look(seen, "get" + i, number);
            }
        }
        look(seen, "rows", x.count(3));
    }

    private static void lookAtTape(SummedBases x, StringBuilder seen) {
        look(seen, "tape", x.count(2));
        look(seen, "read", x.read(0, 0));
        look(seen, "value", x.value(0));
    }

    /** All that can be seen of an object, in fewer than 400 calls. */
    private static String sight(SummedBases x) {
        StringBuilder seen = new StringBuilder();
        lookAtBases(x, seen);
        lookAtValues(x, seen);
        lookAtDigits(x, seen);
        lookAtRows(x, seen);
        int deeds = x.count(1);
        look(seen, "deeds", deeds);
        for (int d = 0; d <= deeds; d++) {
            look(seen, "back", x.back());
            for (int r = 0; r < 4; r++) {
                look(seen, "value", x.value(r));
            }
        }
        lookAtTape(x, seen);
        look(seen, "undo", x.undo());
        lookAtBases(x, seen);
        lookAtValues(x, seen);
        return seen.toString();
    }

    // ---- the refusals

    private static void refused(String name, Call call, long due) {
        FILLED.add(new Refusal(name, call, due));
    }

    /** A call with an index that is just, or far, outside its bounds. */
    private static void noSuch(String name, int end, IndexedCall call, long due) {
        int[] none = {-1, end, LEAST, MOST};
        for (int index : none) {
            refused(name + " with no such index, " + index, x -> call.answer(x, index), due);
        }
    }

    private static void noSuchBase() {
        noSuch("base(b, 1, 1)", 3, (x, b) -> x.base(b, 1, 1), BAD);
        noSuch("of(b, 0)", 3, (x, b) -> x.of(b, 0), BAD);
        noSuch("worth(b, 0, 0)", 3, (x, b) -> x.worth(b, 0, 0), NO);
        noSuch("top(b)", 3, (x, b) -> x.top(b), NO);
        noSuch("taken(b, 0)", 3, (x, b) -> x.taken(b, 0), BAD);
        noSuch("write(0, b, 1)", 3, (x, b) -> x.write(LEGAL_REEL, b, 1), BAD);
        noSuch("ways(b, 1, 1, 0)", 3, (x, b) -> x.ways(b, 1, 1, 0), NO);
        noSuch("ways(b, 1, 1, 1)", 3, (x, b) -> x.ways(b, 1, 1, 1), NO);
        noSuch("crossed(b, 0, 1)", 3, (x, b) -> x.crossed(b, 0, 1), BAD);
        noSuch("crossed(0, b, 1)", 3, (x, b) -> x.crossed(0, b, 1), BAD);
        noSuch("read(0, b)", 3, (x, b) -> x.read(LEGAL_REEL, b), BAD);
        noSuch("lay(0, b, 2)", 3, (x, b) -> x.lay(LEGAL_REEL, b, LONG_ROW), BAD);
    }

    private static void noSuchReel() {
        noSuch("write(r, 0, 1)", 6, (x, r) -> x.write(r, 0, 1), BAD);
        noSuch("empty(r)", 6, (x, r) -> x.empty(r), BAD);
        noSuch("told(r, 0)", 6, (x, r) -> x.told(r, 0), BAD);
        noSuch("at(r, 0)", 6, (x, r) -> x.at(r, 0), BAD);
        noSuch("value(r)", 6, (x, r) -> x.value(r), NO);
        noSuch("digit(r, 0, 0)", 6, (x, r) -> x.digit(r, 0, 0), BAD);
        noSuch("borrow(r, 0)", 6, (x, r) -> x.borrow(r, 0), BAD);
        noSuch("carry(r, 0)", 6, (x, r) -> x.carry(r, 0), BAD);
        noSuch("settle(r)", 6, (x, r) -> x.settle(r), BAD);
        noSuch("right(r)", 6, (x, r) -> x.right(r), BAD);
        noSuch("shift(r, 0)", 6, (x, r) -> x.shift(r, 0), BAD);
        noSuch("on(r, 0)", 6, (x, r) -> x.on(r, 0), BAD);
        noSuch("soon(r, 0)", 6, (x, r) -> x.soon(r, 0), BAD);
        noSuch("sum(r, 0, 0, 0)", 6, (x, r) -> x.sum(r, LEGAL_REEL, LEGAL_REEL, 0), BAD);
        noSuch("sum(0, r, 0, 0)", 6, (x, r) -> x.sum(LEGAL_REEL, r, LEGAL_REEL, 0), BAD);
        noSuch("sum(0, 0, r, 0)", 6, (x, r) -> x.sum(LEGAL_REEL, LEGAL_REEL, r, 0), BAD);
        noSuch("like(r, 0, 0)", 6, (x, r) -> x.like(r, LEGAL_REEL, 0), BAD);
        noSuch("like(0, r, 0)", 6, (x, r) -> x.like(LEGAL_REEL, r, 0), BAD);
        noSuch("print(r, 0)", 6, (x, r) -> x.print(r, 0), BAD);
        noSuch("read(r, 0)", 6, (x, r) -> x.read(r, 0), BAD);
        noSuch("lay(r, 0, 0)", 6, (x, r) -> x.lay(r, 0, SHORT_ROW), BAD);
        noSuch("film(r, 0)", 6, (x, r) -> x.film(r, SHORT_ROW), BAD);
    }

    private static void noSuchRow() {
        noSuch("row(w, 1)", 3, (x, w) -> x.row(w, 1), BAD);
        noSuch("put(w, 0, 1)", 3, (x, w) -> x.put(w, 0, 1), BAD);
        noSuch("get(w, 0)", 3, (x, w) -> x.get(w, 0), NO);
        noSuch("copy(w, 0, 0, 0, 1)", 3, (x, w) -> x.copy(w, 0, SHORT_ROW, 0, 1), BAD);
        noSuch("copy(0, 0, w, 0, 1)", 3, (x, w) -> x.copy(SHORT_ROW, 0, w, 0, 1), BAD);
        noSuch("lay(0, 0, w)", 3, (x, w) -> x.lay(LEGAL_REEL, 0, w), BAD);
        noSuch("film(0, w)", 3, (x, w) -> x.film(LEGAL_REEL, w), BAD);
    }

    private static void noSuchWhat() {
        noSuch("of(0, what)", 3, (x, what) -> x.of(0, what), BAD);
        noSuch("worth(0, 0, what)", 2, (x, what) -> x.worth(0, 0, what), NO);
        noSuch("taken(0, kind)", 4, (x, kind) -> x.taken(0, kind), BAD);
        noSuch("told(0, what)", 4, (x, what) -> x.told(LEGAL_REEL, what), BAD);
        noSuch("sum(0, 0, 0, what)", 5, (x, what) -> x.sum(LEGAL_REEL, LEGAL_REEL, LEGAL_REEL, what), BAD);
        noSuch("like(0, 0, what)", 2, (x, what) -> x.like(LEGAL_REEL, LEGAL_REEL, what), BAD);
        noSuch("ways(0, 1, 1, what)", 2, (x, what) -> x.ways(0, 1, 1, what), NO);
        noSuch("count(what)", 4, (x, what) -> x.count(what), BAD);
    }

    private static void emptyReel() {
        int e = EMPTY_REEL;
        refused("empty(e)", x -> x.empty(e), MISSING);
        for (int what = 0; what < 4; what++) {
            int asked = what;
            refused("told(e, " + what + ")", x -> x.told(e, asked), MISSING);
        }
        refused("at(e, 0)", x -> x.at(e, 0), MISSING);
        refused("value(e)", x -> x.value(e), NO);
        refused("digit(e, 0, 0)", x -> x.digit(e, 0, 0), MISSING);
        refused("borrow(e, 0)", x -> x.borrow(e, 0), MISSING);
        refused("carry(e, 0)", x -> x.carry(e, 0), MISSING);
        refused("settle(e)", x -> x.settle(e), MISSING);
        refused("right(e)", x -> x.right(e), MISSING);
        refused("shift(e, 0)", x -> x.shift(e, 0), MISSING);
        refused("on(e, 0)", x -> x.on(e, 0), MISSING);
        refused("soon(e, 0)", x -> x.soon(e, 0), MISSING);
        for (int what = 0; what < 5; what++) {
            int asked = what;
            refused("sum(e, 0, 5, " + what + ")", x -> x.sum(e, LEGAL_REEL, ZERO_REEL, asked), MISSING);
            refused("sum(0, e, 5, " + what + ")", x -> x.sum(LEGAL_REEL, e, ZERO_REEL, asked), MISSING);
            refused("sum(e, e, e, " + what + ")", x -> x.sum(e, e, e, asked), MISSING);
        }
        for (int what = 0; what < 2; what++) {
            int asked = what;
            refused("like(e, 0, " + what + ")", x -> x.like(e, LEGAL_REEL, asked), MISSING);
            refused("like(0, e, " + what + ")", x -> x.like(LEGAL_REEL, e, asked), MISSING);
            refused("like(e, e, " + what + ")", x -> x.like(e, e, asked), MISSING);
        }
        refused("print(e, -1)", x -> x.print(e, -1), MISSING);
        refused("print(e, 0)", x -> x.print(e, 0), MISSING);
        refused("film(e, 0)", x -> x.film(e, SHORT_ROW), MISSING);
        refused("film(e, missing)", x -> x.film(e, MISSING_ROW), MISSING);
    }

    private static void missingRow() {
        refused("put(missing, 0, 1)", x -> x.put(MISSING_ROW, 0, 1), MISSING);
        refused("get(missing, 0)", x -> x.get(MISSING_ROW, 0), NO);
        refused("copy(missing, 0, 0, 0, 1)", x -> x.copy(MISSING_ROW, 0, SHORT_ROW, 0, 1), MISSING);
        refused("copy(0, 0, missing, 0, 1)", x -> x.copy(SHORT_ROW, 0, MISSING_ROW, 0, 1), MISSING);
        refused("copy(missing, 0, missing, 0, 0)", x -> x.copy(MISSING_ROW, 0, MISSING_ROW, 0, 0), MISSING);
        refused("lay(0, 0, missing)", x -> x.lay(LEGAL_REEL, 0, MISSING_ROW), MISSING);
    }

    private static void rowsOfSteps() {
        int[][] bad = {{0, 0}, {0, 1}, {-1, 1}, {LEAST, 1}, {9, 111111111}, {9, 123456789}, {10, 1111111111}, {MOST, 1},
            {1, 0}, {1, 10}, {1, 11}, {1, -1}, {1, LEAST}, {1, MOST}, {2, 1}, {2, 10}, {2, 111}, {2, -11}, {3, 11}, {3, 101},
            {3, 110}, {3, 1111}, {8, 1111111}, {8, 10111111}, {8, 11111110}, {8, 111111111}, {8, -11111111}, {8, LEAST},
            {8, MOST}, {8, 0}};
        for (int[] b : bad) {
            refused("base(2, " + b[0] + ", " + b[1] + ")", x -> x.base(2, b[0], b[1]), BAD);
        }
    }

    private static void placesOutside() {
        int[] golden = {-1, 43, LEAST, MOST};
        for (int k : golden) {
            refused("worth(0, " + k + ", 0)", x -> x.worth(0, k, 0), NO);
            refused("worth(0, " + k + ", 1)", x -> x.worth(0, k, 1), NO);
            refused("at(0, " + k + ")", x -> x.at(LEGAL_REEL, k), OUTSIDE);
            refused("digit(0, " + k + ", 1)", x -> x.digit(LEGAL_REEL, k, 1), OUTSIDE);
            refused("soon(0, " + k + ")", x -> x.soon(LEGAL_REEL, k), OUTSIDE);
        }
        int[] nine = {-1, 10, 42, LEAST, MOST};
        for (int k : nine) {
            refused("worth(2, " + k + ", 0)", x -> x.worth(2, k, 0), NO);
            refused("worth(2, " + k + ", 1)", x -> x.worth(2, k, 1), NO);
            refused("at(2, " + k + ")", x -> x.at(TOP_REEL, k), OUTSIDE);
            refused("digit(2, " + k + ", 1)", x -> x.digit(TOP_REEL, k, 1), OUTSIDE);
            refused("soon(2, " + k + ")", x -> x.soon(TOP_REEL, k), OUTSIDE);
            refused("borrow(2, " + k + ")", x -> x.borrow(TOP_REEL, k), OUTSIDE);
            refused("carry(2, " + k + ")", x -> x.carry(TOP_REEL, k), OUTSIDE);
        }
        refused("borrow(0, HIGH less 1)", x -> x.borrow(LEGAL_REEL, 42), OUTSIDE);
        refused("carry(0, HIGH less 1)", x -> x.carry(LEGAL_REEL, 42), OUTSIDE);
        refused("borrow(2, HIGH less 1)", x -> x.borrow(TOP_REEL, 9), OUTSIDE);
        refused("carry(2, HIGH less 1)", x -> x.carry(TOP_REEL, 9), OUTSIDE);
        // 101 is 89 and 8 and 3 and 1: 1.0.0.0.0.1.0.1.0.1, 19 bytes
        refused("print(0, size)", x -> x.print(LEGAL_REEL, 19), OUTSIDE);
        refused("print(0, MOST)", x -> x.print(LEGAL_REEL, MOST), OUTSIDE);
        refused("print of 0, 1", x -> x.print(ZERO_REEL, 1), OUTSIDE);
    }

    private static void numbersOutside() {
        long[] below = {-1, -GOLDEN_TOP, NO};
        for (long v : below) {
            refused("write(0, 0, " + v + ")", x -> x.write(LEGAL_REEL, 0, v), BAD);
            refused("write(e, 2, " + v + ")", x -> x.write(EMPTY_REEL, 2, v), BAD);
            refused("crossed(0, 2, " + v + ")", x -> x.crossed(0, 2, v), BAD);
            refused("ways(0, " + v + ", 1, 0)", x -> x.ways(0, v, 1, 0), NO);
        }
        long[] above = {GOLDEN_TOP + 1, 1L << 32, Long.MAX_VALUE};
        for (long v : above) {
            refused("write(0, 0, " + v + ")", x -> x.write(LEGAL_REEL, 0, v), STATE);
            refused("write(e, 0, " + v + ")", x -> x.write(EMPTY_REEL, 0, v), STATE);
            refused("crossed(0, 2, " + v + ")", x -> x.crossed(0, 2, v), STATE);
            refused("crossed(2, 0, " + v + ")", x -> x.crossed(2, 0, v), STATE);
        }
        refused("write(2, 2, TOP and 1)", x -> x.write(TOP_REEL, 2, NINE_TOP + 1), STATE);
        refused("crossed(2, 2, TOP and 1)", x -> x.crossed(2, 2, NINE_TOP + 1), STATE);
        long[] aboveMost = {1000000001L, 1L << 32, Long.MAX_VALUE};
        for (long v : aboveMost) {
            refused("ways(2, " + v + ", 9, 0)", x -> x.ways(2, v, 9, 0), NO);
            refused("ways(2, " + v + ", 9, 1)", x -> x.ways(2, v, 9, 1), NO);
        }
        int[] times = {0, 10, -1, LEAST, MOST};
        for (int m : times) {
            refused("ways(0, 1, " + m + ", 0)", x -> x.ways(0, 1, m, 0), NO);
            refused("ways(0, 0, " + m + ", 1)", x -> x.ways(0, 0, m, 1), NO);
        }
        int[] digits = {-1, 100, LEAST, MOST};
        for (int d : digits) {
            refused("digit(0, 0, " + d + ")", x -> x.digit(LEGAL_REEL, 0, d), BAD);
        }
        int[] shifts = {-10, 10, LEAST, MOST};
        for (int n : shifts) {
            refused("shift(0, " + n + ")", x -> x.shift(LEGAL_REEL, n), BAD);
        }
        int[] turns = {-100001, 100001, LEAST, MOST};
        for (int t : turns) {
            refused("on(0, " + t + ")", x -> x.on(LEGAL_REEL, t), BAD);
        }
        int[] bytes = {-2, LEAST};
        for (int k : bytes) {
            refused("print(0, " + k + ")", x -> x.print(LEGAL_REEL, k), BAD);
        }
        int[] letters = {-1, 128, 256 + '1', LEAST, MOST};
        for (int letter : letters) {
            refused("feed(" + letter + ")", x -> x.feed(letter), BAD);
        }
    }

    private static void digitsThatCannotMove() {
        // reel 0 is 101 in the golden base: places 0, 2, 4 and 9
        refused("borrow, a DIGIT below 0", x -> x.borrow(LEGAL_REEL, 0), STATE);
        refused("borrow, a DIGIT below 0", x -> x.borrow(LEGAL_REEL, 4), STATE);
        refused("carry, DIGIT k below 0", x -> x.carry(LEGAL_REEL, 1), STATE);
        refused("carry, DIGIT k - 1 below 0", x -> x.carry(LEGAL_REEL, 2), STATE);
        refused("carry at place 0, less than W1", x -> x.carry(LEGAL_REEL, 0), STATE);
        // reel 3 has 99 at places 40 and 42
        refused("borrow, DIGIT k - 1 above 99", x -> x.borrow(GREAT_REEL, 41), STATE);
        refused("carry, DIGIT k + 1 above 99", x -> x.carry(GREAT_REEL, 41), STATE);
        refused("carry, 0 below", x -> x.carry(GREAT_REEL, 40), STATE);
        refused("right, above TOP", x -> x.right(GREAT_REEL), STATE);
        refused("on, not LEGAL", x -> x.on(CROOKED_REEL, 1), STATE);
        refused("on by 0, not LEGAL", x -> x.on(CROOKED_REEL, 0), STATE);
        refused("soon, not LEGAL", x -> x.soon(CROOKED_REEL, 0), STATE);
        refused("on, below 0", x -> x.on(LEGAL_REEL, -102), FULL);
        refused("on, far below 0", x -> x.on(LEGAL_REEL, -100000), FULL);
        refused("on, below 0 from 0", x -> x.on(ZERO_REEL, -1), FULL);
        refused("on, above TOP", x -> x.on(TOP_REEL, 1), FULL);
        refused("on, far above TOP", x -> x.on(TOP_REEL, 100000), FULL);
    }

    private static void sumsThatCannotBe() {
        for (int what = 0; what < 5; what++) {
            int asked = what;
            refused("sum of unlike bases, " + what, x -> x.sum(LEGAL_REEL, ZERO_REEL, EMPTY_REEL, asked), UNLIKE);
            refused("sum of unlike bases, " + what, x -> x.sum(ZERO_REEL, LEGAL_REEL, LEGAL_REEL, asked), UNLIKE);
        }
        refused("a DIGIT above 99", x -> x.sum(GREAT_REEL, GREAT_REEL, EMPTY_REEL, 0), STATE);
        refused("a DIGIT above 99, to itself", x -> x.sum(GREAT_REEL, GREAT_REEL, GREAT_REEL, 0), STATE);
        refused("a difference below 0", x -> x.sum(LEGAL_REEL, GREAT_REEL, LEGAL_REEL, 1), STATE);
        refused("a difference above TOP", x -> x.sum(GREAT_REEL, LEGAL_REEL, LEGAL_REEL, 1), STATE);
        refused("a product above TOP", x -> x.sum(TOP_REEL, TOP_REEL, EMPTY_REEL, 2), STATE);
        refused("a product beyond a long", x -> x.sum(GREAT_REEL, GREAT_REEL, LEGAL_REEL, 2), STATE);
        refused("by 0", x -> x.sum(TOP_REEL, ZERO_REEL, EMPTY_REEL, 3), STATE);
        refused("the rest by 0", x -> x.sum(TOP_REEL, ZERO_REEL, EMPTY_REEL, 4), STATE);
        refused("0 by 0", x -> x.sum(ZERO_REEL, ZERO_REEL, ZERO_REEL, 3), STATE);
        refused("the rest of 0 by 0", x -> x.sum(ZERO_REEL, ZERO_REEL, ZERO_REEL, 4), STATE);
    }

    private static void kindsUnlike() {
        refused("a GOLDEN one for SILVER", x -> x.taken(0, 3), UNLIKE);
        refused("a MIXED one for EVEN", x -> x.taken(1, 1), UNLIKE);
        refused("a MIXED one for GOLDEN", x -> x.taken(1, 2), UNLIKE);
        refused("a MIXED one for SILVER", x -> x.taken(1, 3), UNLIKE);
        refused("an EVEN one for GOLDEN", x -> x.taken(2, 2), UNLIKE);
        refused("an EVEN one for SILVER", x -> x.taken(2, 3), UNLIKE);
    }

    private static void rowsThatCannotBe() {
        int[] tooMany = {61, 62, MOST};
        for (int n : tooMany) {
            refused("row(0, " + n + ")", x -> x.row(SHORT_ROW, n), BAD);
            refused("row(missing, " + n + ")", x -> x.row(MISSING_ROW, n), BAD);
        }
        int[] tooFew = {-2, -3, LEAST};
        for (int n : tooFew) {
            refused("row(0, " + n + ")", x -> x.row(SHORT_ROW, n), BELOW_SIZE);
            refused("row(missing, " + n + ")", x -> x.row(MISSING_ROW, n), BELOW_SIZE);
        }
        int[] places = {-1, 3, 59, 60, LEAST, MOST};
        for (int i : places) {
            refused("put(0, " + i + ", 1)", x -> x.put(SHORT_ROW, i, 1), OUTSIDE);
            refused("get(0, " + i + ")", x -> x.get(SHORT_ROW, i), NO);
            refused("copy(0, " + i + ", 2, 0, 1)", x -> x.copy(SHORT_ROW, i, LONG_ROW, 0, 1), OUTSIDE);
            refused("copy(2, 0, 0, " + i + ", 1)", x -> x.copy(LONG_ROW, 0, SHORT_ROW, i, 1), OUTSIDE);
        }
        int[][] ranges = {{0, 0, 4}, {1, 0, 3}, {3, 0, 1}, {0, 42, 3}, {0, 44, 1}, {0, 0, -1}, {1, 1, LEAST}, {0, 0, MOST},
            {1, 1, MOST}, {MOST, 0, MOST}, {0, MOST, MOST}, {-1, 0, 2}, {0, -1, 2}, {4, 0, 0}, {0, 45, 0}, {-1, 0, 0}, {0, -1, 0}};
        for (int[] r : ranges) {
            refused("copy(0, " + r[0] + ", 2, " + r[1] + ", " + r[2] + ")",
                x -> x.copy(SHORT_ROW, r[0], LONG_ROW, r[1], r[2]), OUTSIDE);
        }
        refused("copy within one, beyond its end", x -> x.copy(SHORT_ROW, 0, SHORT_ROW, 1, 3), OUTSIDE);
        refused("copy within one, beyond its end", x -> x.copy(SHORT_ROW, 1, SHORT_ROW, 0, 3), OUTSIDE);
        refused("lay of 100", x -> x.lay(LEGAL_REEL, 0, SHORT_ROW), STATE);
        refused("lay of more than HIGH, all 0", x -> x.lay(LEGAL_REEL, 0, LONG_ROW), STATE);
        refused("lay of more than HIGH, all 0", x -> x.lay(EMPTY_REEL, 2, LONG_ROW), STATE);
    }

    // ---- two refusals at once: the one that the words name first

    private static void badAheadOfAll() {
        refused("write: reel ahead of TOP", x -> x.write(6, 0, Long.MAX_VALUE), BAD);
        refused("write: base ahead of TOP", x -> x.write(0, 3, Long.MAX_VALUE), BAD);
        refused("told: what ahead of empty", x -> x.told(EMPTY_REEL, 4), BAD);
        refused("digit: d ahead of empty", x -> x.digit(EMPTY_REEL, 0, 100), BAD);
        refused("digit: d ahead of place", x -> x.digit(LEGAL_REEL, 43, -1), BAD);
        refused("shift: n ahead of empty", x -> x.shift(EMPTY_REEL, 10), BAD);
        refused("on: t ahead of empty", x -> x.on(EMPTY_REEL, 100001), BAD);
        refused("on: t ahead of not LEGAL", x -> x.on(CROOKED_REEL, -100001), BAD);
        refused("on: t ahead of below 0", x -> x.on(LEGAL_REEL, -100001), BAD);
        refused("sum: what ahead of empty", x -> x.sum(EMPTY_REEL, EMPTY_REEL, 0, 5), BAD);
        refused("sum: what ahead of unlike", x -> x.sum(LEGAL_REEL, ZERO_REEL, 0, -1), BAD);
        refused("sum: to ahead of empty", x -> x.sum(EMPTY_REEL, EMPTY_REEL, 6, 0), BAD);
        refused("sum: to ahead of unlike", x -> x.sum(LEGAL_REEL, ZERO_REEL, -1, 0), BAD);
        refused("sum: to ahead of STATE", x -> x.sum(GREAT_REEL, GREAT_REEL, 6, 0), BAD);
        refused("sum: other ahead of empty", x -> x.sum(EMPTY_REEL, 6, 0, 0), BAD);
        refused("like: what ahead of empty", x -> x.like(EMPTY_REEL, 0, 2), BAD);
        refused("like: other ahead of empty", x -> x.like(EMPTY_REEL, 6, 0), BAD);
        refused("crossed: base ahead of TOP", x -> x.crossed(0, 3, Long.MAX_VALUE), BAD);
        refused("print: k ahead of empty", x -> x.print(EMPTY_REEL, -2), BAD);
        refused("row: row ahead of size", x -> x.row(3, -2), BAD);
        refused("copy: other ahead of missing", x -> x.copy(MISSING_ROW, 0, 3, 0, 1), BAD);
        refused("copy: other ahead of place", x -> x.copy(SHORT_ROW, 99, -1, 0, 1), BAD);
        refused("lay: reel ahead of missing", x -> x.lay(6, 0, MISSING_ROW), BAD);
        refused("lay: base ahead of missing", x -> x.lay(0, 3, MISSING_ROW), BAD);
        refused("lay: base ahead of STATE", x -> x.lay(0, 3, LONG_ROW), BAD);
        refused("film: row ahead of empty", x -> x.film(EMPTY_REEL, 3), BAD);
        refused("taken: k ahead of unlike", x -> x.taken(1, 4), BAD);
    }

    private static void othersInTheirOrder() {
        refused("at: empty ahead of place", x -> x.at(EMPTY_REEL, -1), MISSING);
        refused("digit: empty ahead of place", x -> x.digit(EMPTY_REEL, 99, 0), MISSING);
        refused("borrow: empty ahead of place", x -> x.borrow(EMPTY_REEL, 99), MISSING);
        refused("carry: empty ahead of place", x -> x.carry(EMPTY_REEL, -1), MISSING);
        refused("soon: empty ahead of place", x -> x.soon(EMPTY_REEL, 99), MISSING);
        refused("soon: place ahead of not LEGAL", x -> x.soon(CROOKED_REEL, 28), OUTSIDE);
        refused("on: not LEGAL ahead of below 0", x -> x.on(CROOKED_REEL, -100000), STATE);
        refused("on: not LEGAL ahead of above TOP", x -> x.on(GREAT_REEL, 1), STATE);
        refused("sum: empty ahead of unlike", x -> x.sum(EMPTY_REEL, ZERO_REEL, 0, 0), MISSING);
        refused("sum: unlike ahead of by 0", x -> x.sum(LEGAL_REEL, ZERO_REEL, 0, 3), UNLIKE);
        refused("sum: unlike ahead of below 0", x -> x.sum(LEGAL_REEL, TOP_REEL, 0, 1), UNLIKE);
        refused("print: empty ahead of place", x -> x.print(EMPTY_REEL, 500), MISSING);
        refused("put: missing ahead of place", x -> x.put(MISSING_ROW, -1, 1), MISSING);
        refused("copy: missing ahead of place", x -> x.copy(MISSING_ROW, -1, SHORT_ROW, 0, 1), MISSING);
        refused("copy: missing ahead of n", x -> x.copy(SHORT_ROW, 0, MISSING_ROW, 0, -1), MISSING);
    }

    // ---- how they are held against the document

    private static void changesNothing(Refusal refusal, Making making) {
        told++;
        SummedBases asked = making.make();
        due(refusal.name, refusal.call.answer(asked), refusal.due);
        due(refusal.name + ", again", refusal.call.answer(asked), refusal.due);
        String was = sight(making.make());
        String is = sight(asked);
        if (!is.equals(was)) {
            wrong++;
            System.out.println(refusal.name + " changed something:\n  was " + was + "\n  is  " + is);
        }
    }

    private static void ofOtherObjects() {
        changesNothing(new Refusal("back of a new object", x -> x.back(), STATE), SummedBases::new);
        changesNothing(new Refusal("undo of a new object", x -> x.undo(), STATE), SummedBases::new);
        changesNothing(new Refusal("feed of an 81st byte", x -> x.feed('1'), FULL), Refusals::fullTape);
        changesNothing(new Refusal("feed of an 81st byte that is none", x -> x.feed(128), BAD), Refusals::fullTape);
        changesNothing(new Refusal("read of a full tape, no such reel", x -> x.read(6, 0), BAD), Refusals::fullTape);
        changesNothing(new Refusal("read of a full tape, no such base", x -> x.read(0, 3), BAD), Refusals::fullTape);
    }

    /** A FAULT changes nothing but the tape, which is empty then. */
    private static void faultEmptiesTheTape() {
        SummedBases asked = filled();
        asked.feed('x');
        due("read by a FAULT", asked.read(CROOKED_REEL, 2), -103);
        due("the tape then", asked.count(2), 0);
        SummedBases same = filled();
        same.feed('x');
        due("read by a FAULT into another", same.read(EMPTY_REEL, 0), -103);
        String was = sight(filled()).replaceAll(" tape=.*undo", " undo");
        due("all else is as it was", sight(asked).replaceAll(" tape=.*undo", " undo").equals(was) ? 1 : 0, 1);
        due("all else is as it was", sight(same).replaceAll(" tape=.*undo", " undo").equals(was) ? 1 : 0, 1);
    }

    public static void main(String[] args) {
        noSuchBase();
        noSuchReel();
        noSuchRow();
        noSuchWhat();
        emptyReel();
        missingRow();
        rowsOfSteps();
        placesOutside();
        numbersOutside();
        digitsThatCannotMove();
        sumsThatCannotBe();
        kindsUnlike();
        rowsThatCannotBe();
        badAheadOfAll();
        othersInTheirOrder();
        for (Refusal refusal : FILLED) {
            changesNothing(refusal, Refusals::filled);
        }
        ofOtherObjects();
        faultEmptiesTheTape();
        System.out.println(wrong == 0 ? told + " refusals are as due" : wrong + " answers are not as due");
        if (wrong != 0) {
            System.exit(1);
        }
    }
}
