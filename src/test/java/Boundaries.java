/**
 * Each sentence of DOC.md that names a boundary case has a test of its own here, on objects of its own: what is just
 * within a bound, what is just beyond it, what is empty, full, wrapped around. (Refusals.java asks all refusals.)
 */
public final class Boundaries {
    private static final int NONE = -1;
    private static final int BAD = -2;
    private static final int STATE = -3;
    private static final int FULL = -4;
    private static final int MISSING = -11;
    private static final int OUTSIDE = -12;
    private static final int UNLIKE = -13;
    private static final int BELOW_SIZE = -14;
    private static final long NO = Long.MIN_VALUE;
    private static final int LEAST = Integer.MIN_VALUE;
    private static final int MOST = Integer.MAX_VALUE;
    private static final long GOLDEN_TOP = 1134903169L;
    private static final long NINE_TOP = 4316254983L;

    private static int wrong = 0;
    private static int sentences = 0;
    private static String sentence = "";

    private static void says(String words) {
        sentence = words;
        sentences++;
    }

    private static void due(String call, long got, long want) {
        if (got != want) {
            wrong++;
            System.out.println("\"" + sentence + "\": " + call + " answered " + got + ", due is " + want);
        }
    }

    private static void dueDigits(SummedBases x, int reel, int... low) {
        int high = x.of(x.told(reel, 0), 2);
        for (int k = 0; k < high; k++) {
            due("at(" + reel + ", " + k + ")", x.at(reel, k), k < low.length ? low[k] : 0);
        }
    }

    private static void dueText(SummedBases x, int reel, String text) {
        due("print(" + reel + ", -1)", x.print(reel, -1), text.length());
        for (int k = 0; k < text.length(); k++) {
            due("print(" + reel + ", " + k + ")", x.print(reel, k), text.charAt(k));
        }
    }

    private static void feedText(SummedBases x, String text) {
        for (int i = 0; i < text.length(); i++) {
            x.feed(text.charAt(i));
        }
    }

    /** What read() of a text into reel 0 answers. */
    private static int readOf(SummedBases x, int base, String text) {
        feedText(x, text);
        return x.read(0, base);
    }

    /** Base 1 has steps 2, 1, 2 (worths 1, 3, 4, 11, 26, 37 ..), base 2 step 9 (1, 10, 91, 829 ..), base 0 is golden. */
    private static SummedBases mixed() {
        SummedBases x = new SummedBases();
        x.base(1, 3, 212);
        x.base(2, 1, 9);
        return x;
    }

    /** Reel 0 of a base holds digits, place 0 first. */
    private static SummedBases holding(int base, int... digits) {
        SummedBases x = mixed();
        fill(x, 0, base, digits);
        return x;
    }

    /** Without a deed. */
    private static void fill(SummedBases x, int reel, int base, int... digits) {
        x.row(2, digits.length);
        for (int k = 0; k < digits.length; k++) {
            x.put(2, k, digits[k]);
        }
        x.lay(reel, base, 2);
        x.row(2, -1);
    }

    /** As many places as the golden base has, all 0 but one or two. */
    private static int[] golden(int place, int d, int other, int e) {
        int[] digits = new int[43];
        digits[place] = d;
        digits[other] = e;
        return digits;
    }

    // ---- What it is, the public face

    private static void whatItIs() {
        says("An object is used for at most 512 calls after it has been made");
        SummedBases x = new SummedBases();
        x.write(0, 0, 0);
        for (int n = 2; n < 512; n++) {
            x.on(0, 1);
        }
        due("value(0), the call 512", x.value(0), 510);

        SummedBases y = new SummedBases();
        long last = 0;
        for (int n = 1; n <= 512; n++) {
            last = y.ways(0, 1000000000L, 9, 0);
        }
        due("ways() at the call 512", last, 9171852400520744346L);

        says("NONE = -1, BAD = -2, STATE = -3, FULL = -4; NO = Long.MIN_VALUE");
        due("NONE", SummedBases.NONE, -1);
        due("BAD", SummedBases.BAD, -2);
        due("STATE", SummedBases.STATE, -3);
        due("FULL", SummedBases.FULL, -4);
        due("NO", SummedBases.NO, Long.MIN_VALUE);
    }

    // ---- Terms: bases

    private static void rowsOfSteps() {
        says("BASES 0 .. 2");
        SummedBases x = new SummedBases();
        due("of(0, 1)", x.of(0, 1), 1);
        due("of(2, 1)", x.of(2, 1), 1);
        due("of(-1, 1)", x.of(-1, 1), BAD);
        due("of(3, 1)", x.of(3, 1), BAD);

        says("STEPS (whole numbers 1 .. 9; 1 .. 8 of them)");
        x = new SummedBases();
        due("base(0, 1, 1)", x.base(0, 1, 1), 43);
        due("base(0, 1, 9)", x.base(0, 1, 9), 10);
        due("base(0, 8, 11111111)", x.base(0, 8, 11111111), 43);
        due("base(0, 8, 99999999)", x.base(0, 8, 99999999), 10);
        due("base(0, 8, 11111119)", x.base(0, 8, 11111119) > 0 ? x.worth(0, 7, 1) : NO, 9);
        due("base(0, 0, 0)", x.base(0, 0, 0), BAD);
        due("base(0, 9, 111111111)", x.base(0, 9, 111111111), BAD);
        due("base(0, 1, 0)", x.base(0, 1, 0), BAD);

        says("STEP k (k from 0 on) is number k of the row, counted on round it");
        x = new SummedBases();
        x.base(0, 8, 12345678);
        int[] round = {1, 2, 3, 4, 5, 6, 7, 8, 1, 2, 3, 4, 5, 6, 7};
        for (int k = 0; k < round.length; k++) {
            due("STEP " + k, x.worth(0, k, 1), round[k]);
        }
        x.base(0, 2, 12);
        due("the last STEP", x.worth(0, x.of(0, 2) - 1, 1), x.of(0, 2) % 2 == 0 ? 2 : 1);
        due("STEP 2 makes W3", x.worth(0, 3, 0), x.worth(0, 2, 0) + x.worth(0, 1, 0));
        due("STEP 3 makes W4", x.worth(0, 4, 0), 2 * x.worth(0, 3, 0) + x.worth(0, 2, 0));

        says("W0 is 1; W1 is STEP 0 and 1; W2 is (STEP 1 times W1) and W0");
        x = new SummedBases();
        x.base(0, 2, 73);
        due("W0", x.worth(0, 0, 0), 1);
        due("W1", x.worth(0, 1, 0), 8);
        due("W2", x.worth(0, 2, 0), 25);
        due("W3", x.worth(0, 3, 0), 7 * 25 + 8);
    }

    private static void worths() {
        says("so far as they are no more than 1000000000");
        SummedBases x = new SummedBases();
        // no row makes a worth that is 1000000000; of all rows, these come nearest to it
        due("base(0, 8, 33974285)", x.base(0, 8, 33974285), 14);
        due("its greatest worth", x.worth(0, 13, 0), 999999987);
        due("no other", x.worth(0, 14, 0), NO);
        due("base(0, 7, 5744537)", x.base(0, 7, 5744537), 13);
        due("the one that is too great", x.worth(0, 13, 0), NO);
        due("it would have been", x.worth(0, 12, 1) * x.worth(0, 12, 0) + x.worth(0, 11, 0), 1000000079);

        says("HIGH: how many WORTHS there are");
        for (int step = 1; step <= 9; step++) {
            due("base(0, 1, " + step + ")", x.base(0, 1, step), highOf(step));
            due("of(0, 2)", x.of(0, 2), highOf(step));
        }

        says("TOP: the greatest VALUE of a LEGAL one");
        x = mixed();
        for (int b = 0; b < 3; b++) {
            int high = x.of(b, 2);
            // the greatest is the whole step at every second place from the highest down
            int[] digits = new int[high];
            for (int k = high - 1; k >= 0; k -= 2) {
                digits[k] = (int) x.worth(b, k, 1);
            }
            fill(x, 0, b, digits);
            due("value of the greatest", x.value(0), x.top(b));
            due("it is LEGAL", x.told(0, 1), 1);
        }
        due("top(0)", x.top(0), GOLDEN_TOP);
        due("top(2)", x.top(2), NINE_TOP);
    }

    private static int highOf(int step) {
        long below = 1;
        long worth = 1;
        int high = 0;
        while (worth <= 1000000000L) {
            long above = step * worth + below;
            below = worth;
            worth = above;
            high++;
        }
        return high;
    }

    private static void kinds() {
        says("0 MIXED; 1 EVEN under MIXED: all numbers of the row are one");
        SummedBases x = new SummedBases();
        x.base(0, 8, 33333333);
        due("all are one", x.of(0, 0), 1);
        x.base(0, 8, 33333334);
        due("but the last", x.of(0, 0), 0);
        x.base(0, 8, 43333333);
        due("but the first", x.of(0, 0), 0);
        x.base(0, 1, 9);
        due("of one number", x.of(0, 0), 1);

        says("2 GOLDEN under EVEN: that is 1; 3 SILVER under EVEN: that is 2");
        x = new SummedBases();
        x.base(0, 8, 11111111);
        due("of 1", x.of(0, 0), 2);
        x.base(0, 8, 22222222);
        due("of 2", x.of(0, 0), 3);
        x.base(0, 2, 12);
        due("of 1 and 2", x.of(0, 0), 0);
        x.base(0, 2, 21);
        due("of 2 and 1", x.of(0, 0), 0);
        x.base(0, 2, 33);
        due("of 3", x.of(0, 0), 1);

        says("At first all are GOLDEN, of one STEP");
        x = new SummedBases();
        for (int b = 0; b < 3; b++) {
            due("of(" + b + ", 0)", x.of(b, 0), 2);
            due("of(" + b + ", 1)", x.of(b, 1), 1);
        }
    }

    // ---- Terms: numerals

    private static void numerals() {
        says("a DIGIT (0 .. 99) for each WORTH");
        SummedBases x = holding(2, 5);
        due("digit(0, 9, 99)", x.digit(0, 9, 99), 0);
        due("digit(0, 9, 0)", x.digit(0, 9, 0), 99);
        due("digit(0, 9, 100)", x.digit(0, 9, 100), BAD);
        due("digit(0, 9, -1)", x.digit(0, 9, -1), BAD);

        says("at places 0 .. HIGH less 1, WORTH W0 being at place 0");
        x = holding(2, 5, 0, 0, 0, 0, 0, 0, 0, 0, 1);
        due("at(0, 0)", x.at(0, 0), 5);
        due("at(0, 9)", x.at(0, 9), 1);
        due("at(0, 10)", x.at(0, 10), OUTSIDE);
        due("at(0, -1)", x.at(0, -1), OUTSIDE);

        says("VALUE: DIGITS times WORTHS, together");
        x = holding(2, 99, 99, 99, 99, 99, 99, 99, 99, 99, 99);
        due("the greatest of base 2", x.value(0), 99 * 532228879L);
        int[] all = new int[43];
        java.util.Arrays.fill(all, 99);
        x = holding(0, all);
        due("the greatest there is", x.value(0), 181794878199L);
        x = holding(0);
        due("of no digits", x.value(0), 0);

        says("LEGAL: each DIGIT k is no more than STEP k");
        x = holding(2, 9);
        due("STEP 0 at place 0", x.told(0, 1), 1);
        x = holding(2, 10);
        due("more, at place 0", x.told(0, 1), 0);
        x = holding(1, 0, 0, 2);
        due("STEP 2 at place 2", x.told(0, 1), 1);
        x = holding(1, 0, 0, 3);
        due("more, at place 2", x.told(0, 1), 0);
        x = holding(1, 0, 2);
        due("more, at place 1", x.told(0, 1), 0);
        x = holding(0, golden(42, 1, 40, 1));
        due("at the greatest place", x.told(0, 1), 1);
        x = holding(0, golden(42, 2, 40, 1));
        due("more at the greatest place", x.told(0, 1), 0);

        says("where it is STEP k and k is above 0, DIGIT k - 1 is 0");
        x = holding(2, 0, 9);
        due("STEP 1 over a 0", x.told(0, 1), 1);
        x = holding(2, 1, 9);
        due("STEP 1 over a 1", x.told(0, 1), 0);
        x = holding(2, 9, 8);
        due("less than STEP 1 over a 9", x.told(0, 1), 1);
        x = holding(2, 9, 0);
        due("STEP 0, with none below it", x.told(0, 1), 1);
        x = holding(0, golden(42, 1, 41, 1));
        due("at the greatest place", x.told(0, 1), 0);

        says("GREEDY of a number v (0 .. TOP)");
        x = mixed();
        due("write(0, 2, 0)", x.write(0, 2, 0), 0);
        dueDigits(x, 0);
        due("write(0, 2, TOP)", x.write(0, 2, NINE_TOP), 5);
        dueDigits(x, 0, 0, 9, 0, 9, 0, 9, 0, 9, 0, 9);
        due("write(0, 2, TOP less 1)", x.write(0, 2, NINE_TOP - 1), 6);
        dueDigits(x, 0, 9, 8, 0, 9, 0, 9, 0, 9, 0, 9);

        says("how often that goes into what is left");
        x = mixed();
        x.write(0, 2, 829);
        dueDigits(x, 0, 0, 0, 0, 1);
        x.write(0, 2, 828);
        dueDigits(x, 0, 9, 0, 9);
        x.write(0, 2, 819);
        dueDigits(x, 0, 0, 0, 9);
        x.write(0, 2, 818);
        dueDigits(x, 0, 0, 9, 8);
    }

    private static void reels() {
        says("REELS 0 .. 5 are empty at first");
        SummedBases x = new SummedBases();
        due("count(0)", x.count(0), 0);
        for (int r = 0; r < 6; r++) {
            due("told(" + r + ", 0)", x.told(r, 0), MISSING);
        }
        due("told(-1, 0)", x.told(-1, 0), BAD);
        due("told(6, 0)", x.told(6, 0), BAD);

        says("As a BASE is told anew, all REELS of it are empty then");
        x = mixed();
        for (int r = 0; r < 6; r++) {
            x.write(r, r % 3, r);
        }
        due("base(1, 3, 212), as it was", x.base(1, 3, 212), 28);
        due("told(1, 0)", x.told(1, 0), MISSING);
        due("told(4, 0)", x.told(4, 0), MISSING);
        due("count(0)", x.count(0), 4);
        due("base(2, 9, 9), refused", x.base(2, 9, 9), BAD);
        due("count(0) by that", x.count(0), 4);
        due("told(5, 0)", x.told(5, 0), 2);
    }

    // ---- Terms: what is done with digits

    private static void borrows() {
        says("BORROW at place k (0 .. HIGH less 2; VALUE stays)");
        SummedBases x = holding(2, 0, 0, 0, 0, 0, 0, 0, 0, 0, 1);
        due("borrow(0, 8)", x.borrow(0, 8), 9);
        dueDigits(x, 0, 0, 0, 0, 0, 0, 0, 0, 1, 9);
        due("value(0)", x.value(0), 473804929);
        due("borrow(0, 9)", x.borrow(0, 9), OUTSIDE);
        due("borrow(0, -1)", x.borrow(0, -1), OUTSIDE);

        says("DIGIT k + 1 is 1 less, DIGIT k is STEP k more, DIGIT k - 1 is 1 more");
        x = holding(1, 0, 0, 0, 1);
        due("borrow(0, 2)", x.borrow(0, 2), 2);
        dueDigits(x, 0, 0, 1, 2);
        due("borrow(0, 1)", x.borrow(0, 1), 2);
        dueDigits(x, 0, 1, 2, 1);

        // STEP 3 is STEP 0 again, STEP 4 is STEP 1
        x = holding(1, 0, 0, 0, 0, 1, 1);
        due("borrow(0, 3)", x.borrow(0, 3), 2);
        due("borrow(0, 4)", x.borrow(0, 4), 1);
        dueDigits(x, 0, 0, 0, 1, 3, 1);
        due("carry(0, 3)", x.carry(0, 3), 2);
        dueDigits(x, 0, 0, 0, 0, 1, 2);

        says("at place 0: DIGIT 1 is 1 less, DIGIT 0 is W1 more");
        x = holding(1, 0, 1);
        due("borrow(0, 0)", x.borrow(0, 0), 3);
        dueDigits(x, 0, 3);

        says("BORROW: Neither, if a DIGIT would be below 0, above 99");
        due("DIGIT k + 1 of 0", holding(1, 9, 9, 0).borrow(0, 1), STATE);
        due("DIGIT k + 1 of 1", holding(1, 9, 9, 1).borrow(0, 1), 10);
        due("DIGIT k to 99", holding(2, 0, 90, 1).borrow(0, 1), 99);
        due("DIGIT k to 100", holding(2, 0, 91, 1).borrow(0, 1), STATE);
        due("DIGIT k - 1 to 99", holding(2, 98, 0, 1).borrow(0, 1), 9);
        due("DIGIT k - 1 to 100", holding(2, 99, 0, 1).borrow(0, 1), STATE);
        due("DIGIT 1 of 0", holding(2, 5, 0, 7).borrow(0, 0), STATE);
        due("DIGIT 0 to 99", holding(2, 89, 1).borrow(0, 0), 99);
        due("DIGIT 0 to 100", holding(2, 90, 1).borrow(0, 0), STATE);
        x = holding(2, 99, 90, 1);
        x.borrow(0, 1);
        dueDigits(x, 0, 99, 90, 1);
    }

    private static void carries() {
        says("CARRY at k: the other way round, each");
        SummedBases x = holding(1, 0, 1, 2);
        due("carry(0, 2)", x.carry(0, 2), 1);
        dueDigits(x, 0, 0, 0, 0, 1);
        due("value(0)", x.value(0), 11);
        x = holding(1, 4);
        due("carry(0, 0)", x.carry(0, 0), 1);
        dueDigits(x, 0, 1, 1);
        x = holding(2, 0, 0, 0, 0, 0, 0, 0, 1, 9, 0);
        due("carry(0, 8)", x.carry(0, 8), 1);
        dueDigits(x, 0, 0, 0, 0, 0, 0, 0, 0, 0, 0, 1);
        due("carry(0, 9)", x.carry(0, 9), OUTSIDE);
        due("carry(0, -1)", x.carry(0, -1), OUTSIDE);

        says("CARRY: Neither, if a DIGIT would be below 0, above 99");
        due("DIGIT k + 1 to 99", holding(2, 1, 9, 98).carry(0, 1), 99);
        due("DIGIT k + 1 to 100", holding(2, 1, 9, 99).carry(0, 1), STATE);
        due("DIGIT k of STEP k", holding(2, 1, 9).carry(0, 1), 1);
        due("DIGIT k of less", holding(2, 1, 8).carry(0, 1), STATE);
        due("DIGIT k - 1 of 0", holding(2, 0, 9).carry(0, 1), STATE);
        due("DIGIT 0 of W1", holding(2, 10).carry(0, 0), 1);
        due("DIGIT 0 of less", holding(2, 9).carry(0, 0), STATE);
        due("DIGIT 1 to 99", holding(2, 10, 98).carry(0, 0), 99);
        due("DIGIT 1 to 100", holding(2, 10, 99).carry(0, 0), STATE);
        x = holding(2, 0, 99, 99);
        x.carry(0, 1);
        dueDigits(x, 0, 0, 99, 99);
    }

    private static void settled() {
        says("SETTLED: again and again CARRY at the greatest place where it can be");
        // at 2 and not at 1, by which 1 can't be any more
        SummedBases x = holding(0, 1, 1, 1);
        due("settle(0)", x.settle(0), 1);
        dueDigits(x, 0, 1, 0, 0, 1);
        // a carry makes one two places above it ready: at 0, then at 2, then at 4
        x = holding(0, 2, 0, 1, 0, 1);
        due("settle(0), on and on", x.settle(0), 3);
        dueDigits(x, 0, 0, 0, 0, 0, 0, 1);
        // a carry makes the one next to it ready: at 0, then at 1
        x = holding(0, 3);
        due("settle(0), the next one", x.settle(0), 2);
        dueDigits(x, 0, 0, 0, 1);

        // at the greatest place of all, HIGH less 2: at once, and as the one below makes it ready
        x = holding(2, 0, 0, 0, 0, 0, 0, 0, 1, 9, 0);
        due("settle(0), HIGH less 2", x.settle(0), 1);
        dueDigits(x, 0, 0, 0, 0, 0, 0, 0, 0, 0, 0, 1);
        x = holding(2, 0, 0, 0, 0, 0, 0, 2, 9, 8, 0);
        due("settle(0), HIGH less 2 after another", x.settle(0), 1);
        dueDigits(x, 0, 0, 0, 0, 0, 0, 0, 1, 0, 9);
        x = holding(2, 0, 0, 0, 0, 0, 0, 2, 10, 8, 0);
        due("settle(0), HIGH less 2 after another", x.settle(0), 2);
        dueDigits(x, 0, 0, 0, 0, 0, 0, 0, 1, 0, 0, 1);

        says("SETTLED: till there is none");
        x = holding(0);
        due("settle(0) of 0", x.settle(0), 0);
        x = holding(0, 0, 0, 2);
        due("settle(0), none though it isn't LEGAL", x.settle(0), 0);
        dueDigits(x, 0, 0, 0, 2);
        x = holding(0, golden(42, 99, 41, 99));
        due("settle(0), none at the end", x.settle(0), 0);
        x = holding(2, 0, 0, 0, 0, 0, 0, 0, 1, 9, 99);
        due("settle(0), none beside a 99", x.settle(0), 0);
        int[] all = new int[43];
        java.util.Arrays.fill(all, 99);
        x = holding(0, all);
        due("settle(0) of 99s", x.settle(0), settledByHand(all));
        due("value(0)", x.value(0), 181794878199L);
        dueDigits(x, 0, all);
        for (int k = 0; k < 42; k++) {
            due("carry(0, " + k + ") then", x.carry(0, k), STATE);
        }
        java.util.Arrays.fill(all, 99);
        all[42] = 0;
        x = holding(0, all);
        int carries = settledByHand(all);
        due("very many", carries > 1000 ? 1 : 0, 1);
        due("settle(0), very many", x.settle(0), carries);
        dueDigits(x, 0, all);
    }

    /** Golden digits are settled, as the words say: how many carries that took. */
    private static int settledByHand(int[] digits) {
        int carries = 0;
        int k = digits.length - 2;
        while (k >= 0) {
            boolean can = digits[k + 1] < 99 && (k == 0 ? digits[0] >= 2 : digits[k] >= 1 && digits[k - 1] >= 1);
            if (!can) {
                k--;
                continue;
            }
            digits[k + 1]++;
            digits[k] -= k == 0 ? 2 : 1;
            digits[Math.max(k - 1, 0)] -= k == 0 ? 0 : 1;
            carries++;
            k = digits.length - 2;
        }
        return carries;
    }

    private static void rightAndShifted() {
        says("RIGHT: it is the GREEDY of its VALUE");
        SummedBases x = holding(2, 99, 99);
        due("right(0)", x.right(0), 4);
        // 1089 is 829 and 2 times 91 and 7 times 10 and 8
        dueDigits(x, 0, 8, 7, 2, 1);
        x = holding(2);
        due("right(0) of 0", x.right(0), 0);

        says("SHIFTED by n (-9 .. 9)");
        x = holding(2, 7);
        due("shift(0, 9)", x.shift(0, 9), 0);
        dueDigits(x, 0, 0, 0, 0, 0, 0, 0, 0, 0, 0, 7);
        due("shift(0, -9)", x.shift(0, -9), 0);
        dueDigits(x, 0, 7);
        due("shift(0, 10)", x.shift(0, 10), BAD);
        due("shift(0, -10)", x.shift(0, -10), BAD);
        due("shift(0, 0)", x.shift(0, 0), 0);
        dueDigits(x, 0, 7);

        says("DIGIT k is what DIGIT k - n was (0, if there was none such)");
        x = holding(2, 1, 2, 3, 4, 5, 6, 7, 8, 9, 10);
        x.shift(0, 1);
        dueDigits(x, 0, 0, 1, 2, 3, 4, 5, 6, 7, 8, 9);
        x.shift(0, -1);
        dueDigits(x, 0, 1, 2, 3, 4, 5, 6, 7, 8, 9, 0);
    }

    private static void odometer() {
        says("THE ODOMETER t on (t below 0: back)");
        SummedBases x = mixed();
        x.write(0, 2, 10);
        due("on(0, -1)", x.on(0, -1), 2);
        dueDigits(x, 0, 9);
        due("on(0, 1)", x.on(0, 1), 2);
        dueDigits(x, 0, 0, 1);
        due("on(0, -10), to 0", x.on(0, -10), 1);
        dueDigits(x, 0);

        says("TURNED: how many DIGITS are otherwise by that");
        x = mixed();
        x.write(0, 2, 473804928);
        due("on(0, 1), to the greatest WORTH", x.on(0, 1), 6);
        dueDigits(x, 0, 0, 0, 0, 0, 0, 0, 0, 0, 0, 1);
        due("on(0, 0)", x.on(0, 0), 0);
        // from 4 to 6 times 10: a DIGIT that is otherwise counts once
        x.write(0, 2, 40);
        due("on(0, 20)", x.on(0, 20), 1);

        says("SOON (place k): the least t (1 .. 1000) by which DIGIT k is otherwise");
        x = mixed();
        x.write(0, 0, 597);
        due("soon(0, 15), 1000", x.soon(0, 15), 1000);
        x.write(0, 0, 596);
        due("soon(0, 15), 1001", x.soon(0, 15), NONE);
        x.write(0, 0, 1596);
        due("soon(0, 15), 1", x.soon(0, 15), 1);
        x.write(0, 2, 0);
        due("soon(0, 3), 829", x.soon(0, 3), 829);
        due("soon(0, 0), 1", x.soon(0, 0), 1);
        due("soon(0, 9)", x.soon(0, 9), NONE);

        // a 0 below a whole step turns only after that one has
        x.write(0, 0, 2);
        due("soon(0, 0), below a whole step", x.soon(0, 0), 2);
        due("soon(0, 1), the whole step", x.soon(0, 1), 1);
        x.write(0, 2, 90);
        due("soon(0, 0), below 9 times 10", x.soon(0, 0), 2);
        due("soon(0, 1), 9 times 10", x.soon(0, 1), 1);
        x.write(0, 1, 22);
        due("soon(0, 2), below twice 11", x.soon(0, 2), 8);
        due("soon(0, 3), twice 11", x.soon(0, 3), 4);
        x.write(0, 1, 8);
        due("soon(0, 1), below twice 4", x.soon(0, 1), 6);
        x.write(0, 1, 4);
        due("soon(0, 1), below once 4", x.soon(0, 1), 3);
        x.write(0, 0, 0);
        due("soon(0, 42), the highest place", x.soon(0, 42), NONE);
        x.write(0, 0, 701408732L);
        due("soon(0, 42), the highest place", x.soon(0, 42), 1);

        says("NONE (also if TOP comes ahead of that)");
        x = mixed();
        x.write(0, 2, NINE_TOP);
        for (int k = 0; k < 10; k++) {
            due("soon(0, " + k + ") at TOP", x.soon(0, k), NONE);
        }
        // TOP less 1 has 9, 8 at places 0 and 1, TOP 0 and 9
        x.write(0, 2, NINE_TOP - 1);
        due("soon(0, 0) just at TOP", x.soon(0, 0), 1);
        due("soon(0, 1) just at TOP", x.soon(0, 1), 1);
        due("soon(0, 2) beyond it", x.soon(0, 2), NONE);
        x.write(0, 2, NINE_TOP - 10);
        due("soon(0, 1), 10 to TOP", x.soon(0, 1), 10);
        // place 1 of TOP less 9 is 8, which turns at TOP; place 3 is 9 from far below TOP on
        due("soon(0, 3), not to TOP", x.soon(0, 3), NONE);
    }

    // ---- Terms: numbers

    private static void waysOfNumbers() {
        says("WAYS of v by m (1 .. 9)");
        SummedBases x = mixed();
        due("9 by 9", x.ways(2, 9, 9, 0), 1);
        due("9 by 8", x.ways(2, 9, 8, 0), 0);
        due("1 by 1", x.ways(2, 1, 1, 0), 1);
        due("2 by 1", x.ways(2, 2, 1, 0), 0);
        due("3 by 1: 3, 2 1", x.ways(0, 3, 1, 0), 2);
        due("by 0", x.ways(2, 0, 0, 0), NO);
        due("by 10", x.ways(2, 10, 10, 0), NO);

        says("in how many ways v is a sum of WORTHS of a BASE, each taken m times at most");
        // all worths of base 2, m times each, are the most there is
        for (int m = 1; m <= 2; m++) {
            long all = 0;
            for (int k = 0; k < 10; k++) {
                all += m * x.worth(2, k, 0);
            }
            due("all of them, " + m, all <= 1000000000L ? x.ways(2, all, m, 0) : 1, 1);
            due("1 more, " + m, all < 1000000000L ? x.ways(2, all + 1, m, 0) : 0, 0);
        }
        due("10: 10 and ten times 1 not", x.ways(2, 10, 9, 0), 1);
        due("99: 91 and 8, 90 and 9", x.ways(2, 99, 9, 0), 2);
        due("100: 91 and 9, ten times 10 not", x.ways(2, 100, 9, 0), 1);
        due("0", x.ways(2, 0, 9, 0), 1);

        says("(a long that wraps)");
        // 40207177888858387063, 66 bits
        due("2 times round", x.ways(0, 1000000000L, 4, 0), 3313689741439283831L);
        // 10680718678798148673908243, below 0 as a long
        due("below 0", x.ways(0, 1000000000L, 6, 0), -1480111902840410605L);
        // 4005347152989590524250293947802
        due("by 9", x.ways(0, 1000000000L, 9, 0), 9171852400520744346L);

        says("FEWEST: how many WORTHS are taken in that of them with fewest; NONE");
        due("6 of 1, 3, 4 by 2: 3 and 3", x.ways(1, 6, 2, 1), 2);
        due("8 by 1: 4 and 3 and 1", x.ways(1, 8, 1, 1), 3);
        due("2 by 1", x.ways(1, 2, 1, 1), NONE);
        due("0", x.ways(1, 0, 1, 1), 0);
        // 8 1, 5 3 1, 5 2 2, 5 2 1 1, 3 3 2 1, 3 2 2 1 1
        due("9 by 2", x.ways(0, 9, 2, 0), 6);
        due("9 by 2: 8 and 1", x.ways(0, 9, 2, 1), 2);
        due("22 by 2: 21 and 1", x.ways(0, 22, 2, 1), 2);

        says("In FEWEST each WORTH counts as often as it is taken");
        due("18 by 9", x.ways(2, 18, 9, 1), 9);
        due("9 by 9", x.ways(2, 9, 9, 1), 9);
        due("8 by 2: 4 and 4", x.ways(1, 8, 2, 1), 2);

        says("CROSSED of v: how many places k that two BASES both have");
        due("0 of 43 and 28", x.crossed(0, 1, 0), 28);
        due("0 of 10 and 43", x.crossed(2, 0, 0), 10);
        due("0 of 43 and 43", x.crossed(0, 0, 0), 43);
        // the greatest place that both have is place 9: 473804929 has a 1 there in base 2, a 0 in base 0
        x.write(0, 0, 473804929);
        int alike = 0;
        for (int k = 0; k < 10; k++) {
            alike += x.at(0, k) == (k == 9 ? 1 : 0) ? 1 : 0;
        }
        due("473804929", x.crossed(0, 2, 473804929), alike);
    }

    // ---- Terms: texts

    private static void printed() {
        says("PRINTED: DIGITS as figures, from the highest that is not 0 down to place 0, a point between");
        SummedBases x = holding(0, golden(42, 1, 0, 0));
        StringBuilder all = new StringBuilder("1");
        for (int k = 0; k < 42; k++) {
            all.append(".0");
        }
        dueText(x, 0, all.toString());
        x = holding(2, 9, 10, 99);
        dueText(x, 0, "99.10.9");
        x = holding(2, 99);
        dueText(x, 0, "99");
        x = holding(2, 0, 1);
        dueText(x, 0, "1.0");

        says("of one with none but 0: 0");
        x = holding(2);
        dueText(x, 0, "0");
        due("print(0, 1)", x.print(0, 1), OUTSIDE);
    }

    private static void tape() {
        says("THE TAPE (80 bytes at most, 0 .. 127 each)");
        SummedBases x = new SummedBases();
        due("feed(0)", x.feed(0), 1);
        due("feed(127)", x.feed(127), 2);
        due("feed(-1)", x.feed(-1), BAD);
        due("feed(128)", x.feed(128), BAD);
        for (int n = 3; n < 80; n++) {
            x.feed(9);
        }
        due("the byte 80", x.feed(9), 80);
        due("the byte 81", x.feed(9), FULL);
        due("count(2)", x.count(2), 80);

        says("numbers, one or more, a point between");
        x = mixed();
        due("one", readOf(x, 2, "5"), 1);
        dueDigits(x, 0, 5);
        due("two", readOf(x, 2, "5.6"), 2);
        dueDigits(x, 0, 6, 5);
        due("none", readOf(x, 2, ""), -100);
        due("two points", readOf(x, 2, "5..6"), -102);
        due("another byte between", readOf(x, 2, "5,6"), -101);

        says("each 1 or 2 figures (0 ahead of another one, too)");
        due("1 figure each, the least, the greatest", readOf(x, 2, "0.9"), 2);
        dueDigits(x, 0, 9, 0);
        due("2 figures, the greatest", readOf(x, 2, "99"), 1);
        dueDigits(x, 0, 99);
        due("0 ahead of another one", readOf(x, 2, "09.00.05"), 3);
        dueDigits(x, 0, 5, 0, 9);
        due("3 figures", readOf(x, 2, "100"), -102);
        due("3 figures, 0 ahead", readOf(x, 2, "001"), -102);
    }

    private static void faults() {
        says("FAULT, the first from the left: the place of the first byte that can't stand there");
        SummedBases x = mixed();
        due("at the beginning", readOf(x, 2, "x1"), -100);
        due("a point at the beginning", readOf(x, 2, ".1"), -100);
        due("the first of two", readOf(x, 2, "1x2x"), -101);
        due("after a point", readOf(x, 2, "1.x"), -102);
        due("just below the figures", readOf(x, 2, "1/"), -101);
        due("just above them", readOf(x, 2, "1:"), -101);
        due("byte 0", readOf(x, 2, "1\u0000"), -101);
        due("byte 127", readOf(x, 2, "\u007f"), -100);
        due("as the last of 80", readOf(x, 0, "1.".repeat(39) + "1x"), -179);

        says("(a third figure, too)");
        due("of the first number", readOf(x, 2, "123"), -102);
        due("of a later one", readOf(x, 2, "1.23.456"), -107);
        due("ahead of another fault", readOf(x, 2, "123x"), -102);

        says("of a number that has no place (more numbers than HIGH: the first byte of the first one too many, whatever it is)");
        String ten = "1.2.3.4.5.6.7.8.9.10";
        due("as many as HIGH", readOf(x, 2, ten), 10);
        dueDigits(x, 0, 10, 9, 8, 7, 6, 5, 4, 3, 2, 1);
        due("one too many", readOf(x, 2, ten + ".1"), -121);
        due("one too many, a point", readOf(x, 2, ten + ".."), -121);
        due("one too many, another byte", readOf(x, 2, ten + ".x"), -121);
        due("two too many", readOf(x, 2, ten + ".12.3"), -121);
        due("in a base with more places", readOf(x, 0, ten + ".12.3"), 12);
        due("a fault ahead of that", readOf(x, 2, "123." + ten), -102);
        due("28 of 28", readOf(x, 1, "1.".repeat(27) + "1"), 28);
        due("29 of 28", readOf(x, 1, "1.".repeat(28) + "1"), -156);
        due("another byte behind the last", readOf(x, 2, ten + "x"), -120);
        due("a third figure of the last", readOf(x, 2, ten + "1"), -120);

        says("the size, if it ends too early");
        due("of none", readOf(x, 2, ""), -100);
        due("behind a point", readOf(x, 2, "1."), -102);
        due("behind a point of 80", readOf(x, 0, "1.".repeat(40)), -180);
        due("behind the point of the last place", readOf(x, 2, ten + "."), -121);

        says("Numbers that are read stand from the highest place down, the last of them is at place 0");
        due("three", readOf(x, 2, "1.2.3"), 3);
        dueDigits(x, 0, 3, 2, 1);
        due("fewer than there were", readOf(x, 2, "7"), 1);
        dueDigits(x, 0, 7);
    }

    // ---- Terms: deeds

    private static void deeds() {
        says("DEEDS: digit(), borrow(), carry(), settle(), right(), shift(), on() of a REEL");
        SummedBases x = holding(2, 0, 3);
        x.digit(0, 0, 5);
        due("digit()", x.count(1), 1);
        x.borrow(0, 0);
        due("borrow()", x.count(1), 2);
        x.carry(0, 0);
        due("carry()", x.count(1), 3);
        x.settle(0);
        due("settle()", x.count(1), 4);
        x.right(0);
        due("right()", x.count(1), 5);
        x.shift(0, 1);
        due("shift()", x.count(1), 6);
        x.on(0, 1);
        due("on()", x.count(1), 7);
        x.soon(0, 0);
        x.told(0, 1);
        x.print(0, -1);
        x.film(0, 0);
        x.sum(0, 0, 1, 0);
        x.image();
        due("no others", x.count(1), 7);

        says("each that is not refused (be anything otherwise by it or not)");
        x = holding(2, 5);
        x.digit(0, 0, 5);
        due("digit() as it was", x.count(1), 1);
        x.settle(0);
        due("settle() by no carry", x.count(1), 2);
        x.right(0);
        due("right() as it was", x.count(1), 3);
        x.shift(0, 0);
        due("shift() by 0", x.count(1), 4);
        x.on(0, 0);
        due("on() by 0", x.count(1), 5);
        x.digit(0, 10, 5);
        x.digit(0, 0, 100);
        x.borrow(0, 0);
        x.carry(0, 0);
        x.shift(0, 10);
        x.on(0, -100000);
        due("none that is refused", x.count(1), 5);
        x.digit(0, 0, 10);
        x.on(0, 1);
        x.digit(0, 9, 99);
        x.right(0);
        due("none that is refused by STATE", x.count(1), 7);

        says("They may be taken back, the latest first: that REEL's DIGITS are as they were ahead of it");
        x = holding(2, 5);
        fill(x, 1, 1, 2);
        x.digit(0, 9, 99);
        x.shift(1, 2);
        x.shift(0, -9);
        due("back()", x.back(), 2);
        dueDigits(x, 0, 5, 0, 0, 0, 0, 0, 0, 0, 0, 99);
        dueDigits(x, 1, 0, 0, 2);
        due("back()", x.back(), 1);
        dueDigits(x, 1, 2);
        due("back()", x.back(), 0);
        dueDigits(x, 0, 5);
        due("back() of none", x.back(), STATE);

        says("12 at most (the eldest goes)");
        x = holding(2);
        for (int d = 1; d <= 12; d++) {
            x.digit(0, 0, d);
        }
        due("count(1), 12", x.count(1), 12);
        x.digit(0, 0, 13);
        due("count(1), a 13th", x.count(1), 12);
        for (int left = 11; left >= 0; left--) {
            due("back()", x.back(), left);
            due("at(0, 0)", x.at(0, 0), left + 1);
        }
        due("back() of the eldest", x.back(), STATE);
        due("at(0, 0)", x.at(0, 0), 1);

        says("12 at most, of all REELS together");
        x = mixed();
        x.write(0, 0, 0);
        x.write(1, 0, 0);
        x.digit(0, 0, 50);
        for (int d = 1; d <= 12; d++) {
            x.digit(1, 0, d);
        }
        due("count(1)", x.count(1), 12);
        for (int d = 11; d >= 0; d--) {
            due("back()", x.back(), d);
        }
        due("at(1, 0)", x.at(1, 0), 0);
        due("at(0, 0), its deed was the eldest", x.at(0, 0), 50);
    }

    /** Deeds of reels 0, 1, 0, 2, 1, 0, in that order; reel 0 is to be filled or emptied. */
    private static SummedBases withDeeds() {
        SummedBases x = mixed();
        x.write(0, 0, 0);
        x.write(1, 1, 0);
        x.write(2, 2, 0);
        x.write(3, 2, 4);
        x.row(0, 2);
        x.feed('7');
        x.digit(0, 0, 10);
        x.digit(1, 0, 11);
        x.digit(0, 1, 12);
        x.digit(2, 0, 13);
        x.digit(1, 1, 14);
        x.digit(0, 2, 15);
        return x;
    }

    private static void dueOthersDeeds(SummedBases x, String by) {
        due("count(1) by " + by, x.count(1), 3);
        due("back() by " + by, x.back(), 2);
        dueDigits(x, 1, 11);
        dueDigits(x, 2, 13);
        due("back() by " + by, x.back(), 1);
        dueDigits(x, 1, 11);
        dueDigits(x, 2);
        due("back() by " + by, x.back(), 0);
        dueDigits(x, 1);
        due("back() by " + by, x.back(), STATE);
    }

    private static void deedsThatGo() {
        says("As a REEL is filled or emptied by anything else, its DEEDS go, all others stay");
        SummedBases x = withDeeds();
        x.write(0, 2, 5);
        dueOthersDeeds(x, "write()");
        dueDigits(x, 0, 5);
        x = withDeeds();
        x.empty(0);
        dueOthersDeeds(x, "empty()");
        due("told(0, 0)", x.told(0, 0), MISSING);
        x = withDeeds();
        x.sum(3, 3, 0, 0);
        dueOthersDeeds(x, "sum(), digits");
        dueDigits(x, 0, 8);
        x = withDeeds();
        x.sum(3, 3, 0, 2);
        dueOthersDeeds(x, "sum(), a product");
        dueDigits(x, 0, 6, 1);
        x = withDeeds();
        x.sum(0, 0, 0, 1);
        dueOthersDeeds(x, "sum() of itself");
        x = withDeeds();
        x.read(0, 2);
        dueOthersDeeds(x, "read()");
        dueDigits(x, 0, 7);
        x = withDeeds();
        x.lay(0, 2, 0);
        dueOthersDeeds(x, "lay()");
        x = withDeeds();
        x.base(0, 1, 5);
        dueOthersDeeds(x, "base()");
        x = withDeeds();
        x.write(0, 0, 32);
        dueOthersDeeds(x, "write() of the same");

        says("DEEDS of a REEL that is filled or emptied are taken out from among the others, which keep their order");
        x = withDeeds();
        x.empty(1);
        due("count(1)", x.count(1), 4);
        due("back()", x.back(), 3);
        dueDigits(x, 0, 10, 12);
        due("back()", x.back(), 2);
        dueDigits(x, 2);
        due("back()", x.back(), 1);
        dueDigits(x, 0, 10);
        due("back()", x.back(), 0);
        dueDigits(x, 0);

        says("all others stay: those that are not filled, refused, or only asked");
        x = withDeeds();
        x.sum(0, 0, 5, 0);
        x.film(0, 0);
        x.write(0, 0, GOLDEN_TOP + 1);
        x.empty(4);
        x.sum(3, 1, 0, 0);
        x.put(0, 0, 100);
        x.lay(0, 0, 0);
        x.feed('x');
        x.read(0, 0);
        x.base(0, 1, 0);
        x.image();
        due("count(1)", x.count(1), 6);

        says("there is room for 12 again as others have gone");
        x = withDeeds();
        x.empty(0);
        for (int n = 4; n <= 12; n++) {
            x.digit(1, 2, n);
            due("count(1)", x.count(1), n);
        }
        x.digit(1, 2, 13);
        due("count(1), a 13th", x.count(1), 12);
        for (int n = 11; n >= 0; n--) {
            due("back()", x.back(), n);
        }
        dueDigits(x, 1, 11);
        dueDigits(x, 2);
    }

    // ---- Terms: rows, the image

    private static void longRows() {
        says("LONG ROWS 0 .. 2 are missing at first");
        SummedBases x = new SummedBases();
        due("count(3)", x.count(3), 0);
        for (int r = 0; r < 3; r++) {
            due("put(" + r + ", 0, 1)", x.put(r, 0, 1), MISSING);
        }
        due("put(3, 0, 1)", x.put(3, 0, 1), BAD);
        due("put(-1, 0, 1)", x.put(-1, 0, 1), BAD);

        says("or hold 0 .. 60 longs");
        x = new SummedBases();
        due("row(0, 0)", x.row(0, 0), 1);
        due("put(0, 0, 1)", x.put(0, 0, 1), OUTSIDE);
        due("count(3), one of none is there", x.count(3), 1);
        due("row(0, 60)", x.row(0, 60), 1);
        due("put(0, 59, NO)", x.put(0, 59, NO), 1);
        due("put(0, 60, 1)", x.put(0, 60, 1), OUTSIDE);
        due("put(0, 59, most)", x.put(0, 59, Long.MAX_VALUE) == 1 ? x.get(0, 59) : NO, Long.MAX_VALUE);
        due("row(0, 61)", x.row(0, 61), BAD);
    }

    private static void images() {
        says("AN IMAGE keeps BASES, REELS");
        SummedBases x = mixed();
        x.write(0, 2, NINE_TOP);
        x.write(1, 0, GOLDEN_TOP);
        x.write(2, 1, 25);
        due("image()", x.image(), 3);
        x.base(2, 1, 1);
        x.base(0, 8, 99999999);
        x.write(0, 2, GOLDEN_TOP);
        x.write(3, 0, 5);
        x.digit(2, 27, 99);
        due("undo()", x.undo(), 3);
        due("of(2, 2)", x.of(2, 2), 10);
        due("of(0, 2)", x.of(0, 2), 43);
        due("of(1, 1)", x.of(1, 1), 3);
        due("top(0)", x.top(0), GOLDEN_TOP);
        due("top(2)", x.top(2), NINE_TOP);
        due("worth(0, 42, 0)", x.worth(0, 42, 0), 701408733);
        due("worth(2, 9, 1)", x.worth(2, 9, 1), 9);
        due("worth(1, 1, 1)", x.worth(1, 1, 1), 1);
        dueDigits(x, 0, 0, 9, 0, 9, 0, 9, 0, 9, 0, 9);
        due("value(1)", x.value(1), GOLDEN_TOP);
        dueDigits(x, 2, 0, 1, 0, 2);
        due("told(3, 0)", x.told(3, 0), MISSING);

        says("AN IMAGE stays as it is, whatever comes, till another one is kept");
        x = mixed();
        x.write(0, 1, 25);
        x.image();
        for (int n = 0; n < 3; n++) {
            x.digit(0, 0, 9);
            x.base(1, 1, 4);
            x.write(0, 1, 3);
            due("undo()", x.undo(), 1);
            dueDigits(x, 0, 0, 1, 0, 2);
            due("of(1, 1)", x.of(1, 1), 3);
        }
        x.write(0, 2, 8);
        x.write(4, 2, 8);
        due("image()", x.image(), 2);
        x.empty(0);
        due("undo()", x.undo(), 2);
        dueDigits(x, 0, 8);

        says("as it is laid back, there are no DEEDS");
        x = withDeeds();
        x.image();
        due("count(1) as it is kept", x.count(1), 6);
        x.undo();
        due("count(1) as it is laid back", x.count(1), 0);
        due("back()", x.back(), STATE);
        dueDigits(x, 0, 10, 12, 15);

        says("THE TAPE, LONG ROWS stay");
        x = mixed();
        x.row(0, 2);
        x.put(0, 1, 5);
        x.feed('3');
        x.image();
        x.put(0, 1, 6);
        x.row(1, 0);
        x.feed('4');
        x.undo();
        due("get(0, 1)", x.get(0, 1), 6);
        due("count(3)", x.count(3), 2);
        due("count(2)", x.count(2), 2);
        due("read(0, 2)", x.read(0, 2), 1);
        dueDigits(x, 0, 34);
    }

    private static void toldPlainly() {
        says("What would be above TOP is refused by sum() as an exact number, however great");
        // 2^32 by 2^32 is 0 as a long: 2^32 is 6 times 701408733, 86514898
        SummedBases x = mixed();
        x.write(0, 0, (1L << 32) - 6 * 701408733L);
        x.digit(0, 42, 6);
        due("value(0)", x.value(0), 1L << 32);
        due("2^64", x.sum(0, 0, 1, 2), STATE);
        due("told(1, 0)", x.told(1, 0), MISSING);
        // 99 at every place, by itself
        int[] all = new int[43];
        java.util.Arrays.fill(all, 99);
        fill(x, 2, 0, all);
        due("the greatest product", x.sum(2, 2, 1, 2), STATE);
        due("as digits", x.sum(2, 2, 1, 0), STATE);

        says("A LONG ROW of more than HIGH is refused also if what is beyond is 0");
        x = mixed();
        x.row(0, 10);
        due("HIGH", x.lay(0, 2, 0), 0);
        x.row(0, 11);
        due("1 more", x.lay(0, 2, 0), STATE);
        x.row(0, 43);
        due("HIGH", x.lay(0, 0, 0), 0);
        x.row(0, 44);
        due("1 more", x.lay(0, 0, 0), STATE);
        x.row(0, 60);
        due("the longest", x.lay(0, 0, 0), STATE);
    }

    // ---- Promises, where they say more than the terms

    private static void promisesOfBases() {
        says("1: Three GOLDEN BASES, all REELS empty");
        SummedBases x = new SummedBases();
        due("top(2)", x.top(2), GOLDEN_TOP);
        due("count(0)", x.count(0), 0);
        due("count(1)", x.count(1), 0);
        due("count(2)", x.count(2), 0);
        due("count(3)", x.count(3), 0);

        says("2: the figures of steps, the first the highest");
        x = new SummedBases();
        x.base(0, 3, 123);
        due("STEP 0", x.worth(0, 0, 1), 1);
        due("STEP 1", x.worth(0, 1, 1), 2);
        due("STEP 2", x.worth(0, 2, 1), 3);

        says("2: steps hasn't just n figures, or one is 0");
        int[][] bad = {{2, 9}, {2, 100}, {2, 111}, {1, 11}, {8, 1111111}, {8, 111111111}, {1, 0}, {2, 10}, {3, 101}, {8, 11110111},
            {1, -1}, {2, -11}, {2, -1}, {8, MOST}, {8, LEAST}};
        for (int[] b : bad) {
            due("base(0, " + b[0] + ", " + b[1] + ")", x.base(0, b[0], b[1]), BAD);
        }
        due("base(0, 2, 11)", x.base(0, 2, 11), 43);
        due("base(0, 2, 99)", x.base(0, 2, 99), 10);

        says("3: KIND (what 0), how many STEPS (1), HIGH (2)");
        x = mixed();
        due("of(1, 0)", x.of(1, 0), 0);
        due("of(1, 1)", x.of(1, 1), 3);
        due("of(1, 2)", x.of(1, 2), 28);
        due("of(1, 3)", x.of(1, 3), BAD);
        due("of(1, -1)", x.of(1, -1), BAD);

        says("4: k from 0 to HIGH less 1. NO: base, k, what");
        due("worth(2, 9, 0)", x.worth(2, 9, 0), 473804929);
        due("worth(2, 9, 1)", x.worth(2, 9, 1), 9);
        due("worth(2, 10, 0)", x.worth(2, 10, 0), NO);
        due("worth(2, 10, 1)", x.worth(2, 10, 1), NO);
        due("worth(2, -1, 0)", x.worth(2, -1, 0), NO);
        due("worth(2, 0, 2)", x.worth(2, 0, 2), NO);
        due("worth(2, 0, -1)", x.worth(2, 0, -1), NO);
        due("worth(3, 0, 0)", x.worth(3, 0, 0), NO);

        says("5: TOP. NO");
        due("top(1)", x.top(1), 1233950650L);
        due("top(3)", x.top(3), NO);
        due("top(-1)", x.top(-1), NO);

        says("6: A BASE taken for one of KIND k (0 .. 3), or one under that: its KIND. BAD; -13");
        x = new SummedBases();
        int[] rows = {12, 33, 11, 22};
        int[][] due = {{0, UNLIKE, UNLIKE, UNLIKE}, {1, 1, UNLIKE, UNLIKE}, {2, 2, 2, UNLIKE}, {3, 3, UNLIKE, 3}};
        for (int kind = 0; kind < 4; kind++) {
            x.base(0, 2, rows[kind]);
            for (int k = 0; k < 4; k++) {
                due(rows[kind] + " taken for " + k, x.taken(0, k), due[kind][k]);
            }
            due("taken(0, 4)", x.taken(0, 4), BAD);
            due("taken(0, -1)", x.taken(0, -1), BAD);
        }
    }

    private static void promisesOfReels() {
        says("7: how many DIGITS are not 0. BAD: v below 0; STATE: it is above TOP");
        SummedBases x = mixed();
        due("write(0, 0, 0)", x.write(0, 0, 0), 0);
        due("write(0, 0, TOP)", x.write(0, 0, GOLDEN_TOP), 22);
        due("write(0, 0, TOP and 1)", x.write(0, 0, GOLDEN_TOP + 1), STATE);
        due("write(0, 2, golden TOP and 1)", x.write(0, 2, GOLDEN_TOP + 1) > 0 ? x.value(0) : NO, GOLDEN_TOP + 1);
        due("write(0, 0, -1)", x.write(0, 0, -1), BAD);
        due("write(0, 0, NO)", x.write(0, 0, NO), BAD);

        says("8: A REEL is empty: 1. BAD; -11: it was");
        x = mixed();
        x.write(5, 0, 0);
        due("empty(5), that holds 0", x.empty(5), 1);
        due("empty(5) again", x.empty(5), MISSING);
        due("empty(6)", x.empty(6), BAD);

        says("9: LEGAL (1; 1, 0), the highest place with one (3; NONE)");
        x = holding(0, golden(42, 1, 0, 0));
        due("told(0, 3)", x.told(0, 3), 42);
        due("told(0, 2)", x.told(0, 2), 1);
        x = holding(0, 1);
        due("told(0, 3) of 1", x.told(0, 3), 0);
        x = holding(0);
        due("told(0, 3) of 0", x.told(0, 3), NONE);
        due("told(0, 2) of 0", x.told(0, 2), 0);
        due("told(0, 1) of 0", x.told(0, 1), 1);
        due("told(0, 4)", x.told(0, 4), BAD);
        due("told(1, 0)", x.told(1, 0), MISSING);

        says("11: VALUE. NO: no such REEL, empty");
        due("value(0) of 0", x.value(0), 0);
        due("value(1)", x.value(1), NO);
        due("value(6)", x.value(6), NO);
        due("value(-1)", x.value(-1), NO);

        says("12: DIGIT at place k becomes d (0 .. 99): what it was");
        x = holding(2, 3);
        due("digit(0, 0, 99)", x.digit(0, 0, 99), 3);
        due("digit(0, 0, 0)", x.digit(0, 0, 0), 99);
        due("digit(0, 0, 0) again", x.digit(0, 0, 0), 0);

        says("15: how many CARRIES that took");
        x = holding(2, 99);
        // nine times at place 0: 9 9; then at place 1
        due("settle(0)", x.settle(0), 10);
        dueDigits(x, 0, 8, 0, 1);
        x = holding(2, 9, 9);
        due("settle(0), 1", x.settle(0), 1);
        dueDigits(x, 0, 8, 0, 1);

        says("16: how many DIGITS are otherwise by that. STATE: its VALUE is above TOP");
        x = holding(2, 0, 9, 0, 9, 0, 9, 0, 9, 0, 9);
        due("right(0) of TOP", x.right(0), 0);
        x = holding(2, 1, 9, 0, 9, 0, 9, 0, 9, 0, 9);
        due("right(0) of TOP and 1", x.right(0), STATE);
        dueDigits(x, 0, 1, 9, 0, 9, 0, 9, 0, 9, 0, 9);
        // TOP told otherwise: 10 at place 0 and 8 at place 1 for 0 and 9
        x = holding(2, 10, 8, 0, 9, 0, 9, 0, 9, 0, 9);
        due("right(0) of TOP, told otherwise", x.right(0), 2);
        dueDigits(x, 0, 0, 9, 0, 9, 0, 9, 0, 9, 0, 9);

        says("17: how many DIGITS that were not 0 are lost");
        x = holding(2, 1, 0, 3, 0, 5, 0, 7, 0, 9, 99);
        due("shift(0, 2)", x.shift(0, 2), 2);
        x = holding(2, 1, 0, 3, 0, 5, 0, 7, 0, 9, 99);
        due("shift(0, -2)", x.shift(0, -2), 1);
        x = holding(2, 1, 0, 3, 0, 5, 0, 7, 0, 9, 99);
        due("shift(0, 9)", x.shift(0, 9), 5);
        x = holding(2, 1, 0, 3, 0, 5, 0, 7, 0, 9, 99);
        due("shift(0, -9)", x.shift(0, -9), 5);
        dueDigits(x, 0, 99);
        x = holding(2, 0, 5);
        due("shift(0, -1), a 0", x.shift(0, -1), 0);

        says("18: t on (-100000 .. 100000). STATE: it isn't LEGAL; FULL: below 0, above TOP");
        x = mixed();
        x.write(0, 2, 0);
        due("on(0, 100000)", x.on(0, 100000) > 0 ? x.value(0) : NO, 100000);
        due("on(0, -100000)", x.on(0, -100000) > 0 ? x.value(0) : NO, 0);
        due("on(0, 100001)", x.on(0, 100001), BAD);
        due("on(0, -100001)", x.on(0, -100001), BAD);
        due("on(0, -1) of 0", x.on(0, -1), FULL);
        due("on(0, 0) of 0", x.on(0, 0), 0);
        x.write(0, 2, NINE_TOP - 100000);
        due("on(0, 100000) to TOP", x.on(0, 100000) > 0 ? x.value(0) : NO, NINE_TOP);
        due("on(0, 1) of TOP", x.on(0, 1), FULL);
        due("on(0, 0) of TOP", x.on(0, 0), 0);
        x = holding(2, 10);
        due("on(0, 1), not LEGAL", x.on(0, 1), STATE);
        due("on(0, -100000), not LEGAL", x.on(0, -100000), STATE);

        says("19: STATE: it isn't LEGAL");
        x = holding(2, 1, 9);
        due("soon(0, 0)", x.soon(0, 0), STATE);
        due("soon(0, 10)", x.soon(0, 10), OUTSIDE);
    }

    private static void promisesOfTwoReels() {
        says("20: REEL to (either, too) holds, of two of one BASE");
        SummedBases x = holding(2, 7);
        fill(x, 1, 2, 4);
        due("sum(0, 1, 0, 0)", x.sum(0, 1, 0, 0), 1);
        dueDigits(x, 0, 11);
        due("sum(0, 1, 1, 1)", x.sum(0, 1, 1, 1), 1);
        dueDigits(x, 1, 7);
        due("sum(1, 1, 1, 2)", x.sum(1, 1, 1, 2), 2);
        dueDigits(x, 1, 9, 4);
        due("sum(1, 1, 1, 3)", x.sum(1, 1, 1, 3), 1);
        dueDigits(x, 1, 1);
        due("sum(1, 1, 1, 4)", x.sum(1, 1, 1, 4), 0);
        dueDigits(x, 1);
        dueDigits(x, 0, 11);
        x.write(2, 0, 55);
        due("to, of another BASE", x.sum(0, 0, 2, 0), 1);
        due("told(2, 0)", x.told(2, 0), 2);

        says("20: what 0: a DIGIT would be above 99");
        x = holding(2, 49, 50, 0, 0, 0, 0, 0, 0, 0, 49);
        fill(x, 1, 2, 50, 49, 0, 0, 0, 0, 0, 0, 0, 50);
        due("99", x.sum(0, 1, 2, 0), 3);
        dueDigits(x, 2, 99, 99, 0, 0, 0, 0, 0, 0, 0, 99);
        due("98", x.sum(0, 0, 2, 0), STATE);
        dueDigits(x, 2, 99, 99, 0, 0, 0, 0, 0, 0, 0, 99);
        x = holding(2, 0, 0, 0, 0, 0, 0, 0, 0, 0, 50);
        due("100 at the highest place", x.sum(0, 0, 0, 0), STATE);
        dueDigits(x, 0, 0, 0, 0, 0, 0, 0, 0, 0, 0, 50);

        says("20: VALUE below 0, above TOP (1)");
        x = mixed();
        x.write(0, 2, 5);
        x.write(1, 2, 6);
        due("5 less 6", x.sum(0, 1, 2, 1), STATE);
        due("5 less 5", x.sum(0, 0, 2, 1), 0);
        due("6 less 5", x.sum(1, 0, 2, 1), 1);
        fill(x, 0, 2, 6, 9, 0, 9, 0, 9, 0, 9, 0, 9);
        due("TOP and 6 less 6", x.sum(0, 1, 2, 1) > 0 ? x.value(2) : NO, NINE_TOP);
        fill(x, 0, 2, 7, 9, 0, 9, 0, 9, 0, 9, 0, 9);
        due("TOP and 7 less 6", x.sum(0, 1, 2, 1), STATE);

        says("20: above TOP (2)");
        x = mixed();
        x.write(0, 0, GOLDEN_TOP);
        x.write(1, 0, 1);
        due("TOP times 1", x.sum(0, 1, 2, 2), 22);
        due("1 times TOP", x.sum(1, 0, 2, 2), 22);
        // GOLDEN_TOP is odd: twice its half, up, is TOP and 1
        x.write(0, 0, GOLDEN_TOP / 2 + 1);
        x.write(1, 0, 2);
        due("TOP and 1", x.sum(0, 1, 2, 2), STATE);
        x.write(0, 0, GOLDEN_TOP / 2);
        due("TOP less 1", x.sum(0, 1, 2, 2) > 0 ? x.value(2) : NO, GOLDEN_TOP - 1);
        x.write(1, 0, 0);
        due("times 0", x.sum(0, 1, 2, 2), 0);
        due("0 times", x.sum(1, 0, 2, 2), 0);

        says("20: above TOP (3, 4)");
        x = mixed();
        fill(x, 0, 2, 1, 9, 0, 9, 0, 9, 0, 9, 0, 9);
        x.write(1, 2, 1);
        due("TOP and 1 by 1", x.sum(0, 1, 2, 3), STATE);
        due("its rest by 1", x.sum(0, 1, 2, 4), 0);
        x.write(1, 2, 2);
        due("TOP and 1 by 2", x.sum(0, 1, 2, 3) > 0 ? x.value(2) : NO, (NINE_TOP + 1) / 2);
        fill(x, 3, 2, 0, 0, 0, 0, 0, 0, 0, 0, 0, 99);
        due("TOP and 1, rest by a greater one", x.sum(0, 3, 2, 4), STATE);
        x.write(0, 2, NINE_TOP);
        due("TOP, rest by a greater one", x.sum(0, 3, 2, 4) > 0 ? x.value(2) : NO, NINE_TOP);
        due("TOP by a greater one", x.sum(0, 3, 2, 3), 0);

        says("20: 3 the one by the other (cut), 4 the rest of that");
        x = mixed();
        x.write(0, 0, 17);
        x.write(1, 0, 6);
        x.sum(0, 1, 2, 3);
        due("17 by 6", x.value(2), 2);
        x.sum(0, 1, 2, 4);
        due("the rest of 17 by 6", x.value(2), 5);
        x.write(0, 0, 18);
        x.sum(0, 1, 2, 3);
        due("18 by 6", x.value(2), 3);
        due("the rest of 18 by 6", x.sum(0, 1, 2, 4), 0);

        says("20: the other's VALUE is 0 (3, 4)");
        x.write(1, 0, 0);
        due("by 0", x.sum(0, 1, 2, 3), STATE);
        due("the rest by 0", x.sum(0, 1, 2, 4), STATE);
        due("0 by 18", x.sum(1, 0, 2, 3), 0);
        due("the rest of 0 by 18", x.sum(1, 0, 2, 4), 0);

        says("20: -13: unlike BASES");
        x = new SummedBases();
        x.write(0, 0, 5);
        x.write(1, 1, 5);
        for (int what = 0; what < 5; what++) {
            due("two BASES of one row, " + what, x.sum(0, 1, 2, what), UNLIKE);
        }

        says("21: the same VALUE (what 0; 1, 0), are of one BASE with the same DIGITS (1)");
        x = holding(0, 0, 0, 1);
        fill(x, 1, 0, 1, 1);
        fill(x, 2, 0, 0, 0, 1);
        x.write(3, 2, 3);
        due("one value, other digits, 0", x.like(0, 1, 0), 1);
        due("one value, other digits, 1", x.like(0, 1, 1), 0);
        due("the same digits, 1", x.like(0, 2, 1), 1);
        due("another base, 0", x.like(0, 3, 0), 1);
        fill(x, 4, 1, 0, 0, 1);
        due("another base, the same digits, 0", x.like(0, 4, 0), 0);
        due("another base, the same digits, 1", x.like(0, 4, 1), 0);
        fill(x, 5, 0, golden(42, 1, 2, 1));
        due("the highest digit, 0", x.like(0, 5, 0), 0);
        due("the highest digit, 1", x.like(0, 5, 1), 0);
        due("itself", x.like(0, 0, 1), 1);
    }

    private static void promisesOfNumbersAndTexts() {
        says("22: NO: base, v below 0, above 1000000000, m, what");
        SummedBases x = mixed();
        due("1000000000", x.ways(1, 1000000000L, 9, 0), 335888007758566773L);
        due("1000000001", x.ways(1, 1000000001L, 9, 0), NO);
        due("0", x.ways(1, 0, 9, 0), 1);
        due("-1", x.ways(1, -1, 9, 0), NO);
        due("m 1", x.ways(1, 1, 1, 1), 1);
        due("m 9", x.ways(1, 1, 9, 1), 1);
        due("m 0", x.ways(1, 1, 0, 1), NO);
        due("m 10", x.ways(1, 1, 10, 1), NO);
        due("what 2", x.ways(1, 1, 1, 2), NO);
        due("what -1", x.ways(1, 1, 1, -1), NO);
        due("base 3", x.ways(3, 1, 1, 0), NO);

        says("23: STATE: v is above either TOP");
        due("TOP of the first", x.crossed(0, 2, GOLDEN_TOP) >= 0 ? 1 : 0, 1);
        due("TOP of the second", x.crossed(2, 0, GOLDEN_TOP) >= 0 ? 1 : 0, 1);
        due("above the first", x.crossed(0, 2, GOLDEN_TOP + 1), STATE);
        due("above the second", x.crossed(2, 0, GOLDEN_TOP + 1), STATE);
        due("above neither", x.crossed(2, 2, GOLDEN_TOP + 1), 10);
        due("above both", x.crossed(2, 0, NINE_TOP + 1), STATE);
        due("v -1", x.crossed(0, 0, -1), BAD);
        due("v 0", x.crossed(0, 0, 0), 43);

        says("24: Byte k of a REEL PRINTED; how many bytes (k -1). BAD: k below -1");
        x = holding(2, 10, 0, 5);
        due("print(0, -1)", x.print(0, -1), 6);
        due("print(0, 0)", x.print(0, 0), '5');
        due("print(0, 5)", x.print(0, 5), '0');
        due("print(0, 6)", x.print(0, 6), OUTSIDE);
        due("print(0, -2)", x.print(0, -2), BAD);
        int[] all = new int[43];
        java.util.Arrays.fill(all, 99);
        x = holding(0, all);
        due("the longest", x.print(0, -1), 128);
        due("its last byte", x.print(0, 127), '9');
        due("beyond it", x.print(0, 128), OUTSIDE);

        says("26: THE TAPE, which is empty then (by a FAULT, too)");
        x = mixed();
        due("read", readOf(x, 2, "12.3"), 2);
        due("count(2)", x.count(2), 0);
        due("read again", x.read(0, 2), -100);
        due("read by a FAULT", readOf(x, 2, "12.3x"), -104);
        due("count(2)", x.count(2), 0);
        due("feed then", x.feed('4'), 1);

        says("26: -100 less the FAULT (the REEL stays). BAD: reel, base (THE TAPE stays)");
        x = holding(2, 8);
        x.digit(0, 0, 9);
        due("read by a FAULT", readOf(x, 1, "x"), -100);
        dueDigits(x, 0, 9);
        due("its base", x.told(0, 0), 2);
        due("its deeds", x.count(1), 1);
        due("into an empty one", x.empty(1) == MISSING ? x.read(1, 0) : NO, -100);
        due("it stays empty", x.told(1, 0), MISSING);
        feedText(x, "5");
        due("no such reel", x.read(6, 0), BAD);
        due("no such base", x.read(0, 3), BAD);
        due("count(2)", x.count(2), 1);
        due("read(0, 0)", x.read(0, 0), 1);
        dueDigits(x, 0, 5);
    }

    private static void promisesOfDeedsAndRows() {
        says("27: how many still may be. STATE: none");
        SummedBases x = holding(2, 5);
        due("back() of none", x.back(), STATE);
        x.digit(0, 0, 6);
        due("back() of one", x.back(), 0);
        due("back() of none", x.back(), STATE);
        dueDigits(x, 0, 5);

        says("28: A LONG ROW becomes n longs, all 0, or missing (n -1): 1. BAD: row, n above 60; -14: n below -1");
        x = mixed();
        due("row(0, 60)", x.row(0, 60), 1);
        x.put(0, 59, 9);
        x.put(0, 0, 9);
        due("row(0, 60) again", x.row(0, 60), 1);
        due("get(0, 0)", x.get(0, 0), 0);
        due("get(0, 59)", x.get(0, 59), 0);
        x.put(0, 1, 9);
        due("row(0, 1), shorter", x.row(0, 1), 1);
        due("row(0, 2), longer again", x.row(0, 2), 1);
        due("get(0, 1)", x.get(0, 1), 0);
        due("row(0, 61)", x.row(0, 61), BAD);
        due("row(0, -2)", x.row(0, -2), BELOW_SIZE);
        due("get(0, 1) by those", x.get(0, 1), 0);
        due("row(0, 0)", x.row(0, 0), 1);
        due("count(3)", x.count(3), 1);
        due("row(0, -1)", x.row(0, -1), 1);
        due("count(3)", x.count(3), 0);
        due("row(0, -1) of a missing one", x.row(0, -1), 1);

        says("30: NO: no such row, missing, no such place");
        x.row(1, 1);
        due("get(1, 0)", x.get(1, 0), 0);
        due("get(1, 1)", x.get(1, 1), NO);
        due("get(1, -1)", x.get(1, -1), NO);
        due("get(0, 0), missing", x.get(0, 0), NO);
        due("get(3, 0)", x.get(3, 0), NO);
        due("get(-1, 0)", x.get(-1, 0), NO);

        copies();

        says("32: as a LONG ROW tells them from place 0 on (0, where it tells none)");
        x = holding(2, 1, 1, 1, 1, 1, 1, 1, 1, 1, 1);
        x.row(0, 2);
        x.put(0, 0, 99);
        due("two", x.lay(0, 2, 0), 1);
        dueDigits(x, 0, 99);
        x.row(0, 0);
        due("none", x.lay(0, 2, 0), 0);
        dueDigits(x, 0);

        says("32: STATE: it tells more than HIGH, or a number that is not 0 .. 99");
        x = holding(2, 4);
        x.row(0, 10);
        x.put(0, 9, 99);
        due("HIGH, 99", x.lay(1, 2, 0), 1);
        due("at(1, 9)", x.at(1, 9), 99);
        long[] none = {100, -1, 1L << 32, NO, Long.MAX_VALUE, (1L << 32) + 5};
        for (long v : none) {
            x.put(0, 9, v);
            due("lay of " + v, x.lay(0, 2, 0), STATE);
        }
        dueDigits(x, 0, 4);

        says("33: A LONG ROW becomes all DIGITS of a REEL, from place 0 on: how many (HIGH). -11: the REEL is empty");
        x = holding(2, 7, 0, 0, 0, 0, 0, 0, 0, 0, 99);
        due("film into a missing one", x.film(0, 0), 10);
        due("get(0, 0)", x.get(0, 0), 7);
        due("get(0, 9)", x.get(0, 9), 99);
        due("get(0, 10)", x.get(0, 10), NO);
        x.row(1, 60);
        x.put(1, 10, 5);
        due("film into a longer one", x.film(0, 1), 10);
        due("get(1, 10)", x.get(1, 10), NO);
        due("film of an empty one", x.film(1, 1), MISSING);
        due("get(1, 9) by that", x.get(1, 9), 99);
        x = holding(0);
        due("film of 0", x.film(0, 0), 43);
        due("get(0, 42)", x.get(0, 42), 0);
    }

    private static void copies() {
        says("31: n numbers of a LONG ROW from i on come to another one from j on");
        SummedBases x = mixed();
        x.row(0, 3);
        x.row(1, 2);
        for (int i = 0; i < 3; i++) {
            x.put(0, i, i + 1);
        }
        due("all that fit", x.copy(0, 1, 1, 0, 2), 2);
        due("get(1, 0)", x.get(1, 0), 2);
        due("get(1, 1)", x.get(1, 1), 3);
        due("one more than there are", x.copy(0, 2, 1, 0, 2), OUTSIDE);
        due("one more than there is room for", x.copy(0, 0, 1, 1, 2), OUTSIDE);
        due("the last to the last", x.copy(0, 2, 1, 1, 1), 1);
        due("none", x.copy(0, 0, 1, 0, 0), 0);
        due("none, behind the end of each", x.copy(0, 3, 1, 2, 0), 0);
        due("none, a place further", x.copy(0, 4, 1, 0, 0), OUTSIDE);
        due("none, to a place further", x.copy(0, 0, 1, 3, 0), OUTSIDE);
        due("n below 0", x.copy(0, 0, 1, 0, -1), OUTSIDE);
        due("a whole to itself", x.copy(0, 0, 0, 0, 3), 3);
        due("get(0, 2)", x.get(0, 2), 3);

        says("31: (or the same) (as they were)");
        x.row(0, 60);
        for (int i = 0; i < 60; i++) {
            x.put(0, i, i);
        }
        due("up", x.copy(0, 0, 0, 1, 59), 59);
        due("get(0, 0)", x.get(0, 0), 0);
        due("get(0, 2)", x.get(0, 2), 1);
        due("get(0, 59)", x.get(0, 59), 58);
        due("down", x.copy(0, 1, 0, 0, 59), 59);
        due("get(0, 0)", x.get(0, 0), 0);
        due("get(0, 1)", x.get(0, 1), 1);
        due("get(0, 58)", x.get(0, 58), 58);
        due("get(0, 59)", x.get(0, 59), 58);

        says("31: -11: either");
        due("the one is missing", x.copy(2, 0, 0, 0, 1), MISSING);
        due("the other is missing", x.copy(0, 0, 2, 0, 1), MISSING);
        due("both are", x.copy(2, 0, 2, 0, 0), MISSING);
    }

    private static void promisesOfTheImage() {
        says("34: how many REELS aren't empty");
        SummedBases x = new SummedBases();
        due("none", x.image(), 0);
        for (int r = 0; r < 6; r++) {
            x.write(r, 0, 0);
        }
        due("all", x.image(), 6);

        says("35: how many REELS aren't empty. STATE: there is none");
        x = new SummedBases();
        x.write(0, 0, 1);
        due("undo()", x.undo(), STATE);
        due("value(0)", x.value(0), 1);
        x.empty(0);
        x.image();
        x.write(0, 0, 1);
        x.write(5, 0, 1);
        due("undo() to none", x.undo(), 0);
        due("told(0, 0)", x.told(0, 0), MISSING);
        due("told(5, 0)", x.told(5, 0), MISSING);
        due("count(0)", x.count(0), 0);

        says("36: 0 REELS that aren't empty, 1 DEEDS that may be taken back, 2 bytes of THE TAPE, 3 LONG ROWS that there are");
        x = new SummedBases();
        for (int what = 0; what < 4; what++) {
            due("count(" + what + ") at first", x.count(what), 0);
        }
        for (int r = 0; r < 6; r++) {
            x.write(r, r % 3, 1);
            due("count(0)", x.count(0), r + 1);
        }
        for (int r = 0; r < 3; r++) {
            x.row(r, 0);
            due("count(3)", x.count(3), r + 1);
        }
        x.settle(0);
        x.settle(5);
        due("count(1)", x.count(1), 2);
        x.feed(0);
        due("count(2)", x.count(2), 1);
        due("count(4)", x.count(4), BAD);
        due("count(-1)", x.count(-1), BAD);
    }

    public static void main(String[] args) {
        whatItIs();
        rowsOfSteps();
        worths();
        kinds();
        numerals();
        reels();
        borrows();
        carries();
        settled();
        rightAndShifted();
        odometer();
        waysOfNumbers();
        printed();
        tape();
        faults();
        deeds();
        deedsThatGo();
        longRows();
        images();
        toldPlainly();
        promisesOfBases();
        promisesOfReels();
        promisesOfTwoReels();
        promisesOfNumbersAndTexts();
        promisesOfDeedsAndRows();
        promisesOfTheImage();
        System.out.println(wrong == 0 ? sentences + " sentences hold" : wrong + " answers are not as due");
        if (wrong != 0) {
            System.exit(1);
        }
    }
}
