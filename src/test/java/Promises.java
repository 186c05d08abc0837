/** For each promise of DOC.md: ordinary inputs, the edges that it names, wrong inputs. */
public final class Promises {
    private static final long NO = Long.MIN_VALUE;
    private static final int LEAST = Integer.MIN_VALUE;
    private static final int MOST = Integer.MAX_VALUE;

    private static int wrong = 0;
    private static int promise = 0;

    private static void due(String call, long got, long want) {
        if (got != want) {
            wrong++;
            System.out.println("promise " + promise + ": " + call + " answered " + got + ", due is " + want);
        }
    }

    private static void dueDigits(SummedBases x, int reel, int... low) {
        for (int k = 0; k < low.length; k++) {
            due("digit " + k + " of reel " + reel, x.at(reel, k), low[k]);
        }
        for (int k = low.length; k < x.of(x.told(reel, 0), 2); k++) {
            due("digit " + k + " of reel " + reel, x.at(reel, k), 0);
        }
    }

    private static void feedText(SummedBases x, String text) {
        for (int i = 0; i < text.length(); i++) {
            due("feed of '" + text.charAt(i) + "'", x.feed(text.charAt(i)), i + 1);
        }
    }

    private static void dueText(SummedBases x, int reel, String text) {
        due("print(" + reel + ", -1)", x.print(reel, -1), text.length());
        for (int i = 0; i < text.length(); i++) {
            due("print(" + reel + ", " + i + ")", x.print(reel, i), text.charAt(i));
        }
        due("print(" + reel + ", " + text.length() + ")", x.print(reel, text.length()), -12);
    }

    /** An object whose base 1 has steps 2, 1, 2 (worths 1, 3, 4, 11, 26, 37, 100 ..) and base 2 step 9 (1, 10, 91 ..). */
    private static SummedBases mixed() {
        SummedBases x = new SummedBases();
        x.base(1, 3, 212);
        x.base(2, 1, 9);
        return x;
    }

    /** Reel i of base 0 gets a value that may be far above its top. */
    private static void writeGreat(SummedBases x, int reel, long v) {
        long worth = 701408733L;
        due("write of the rest", x.write(reel, 0, v % worth) >= 0 ? 1 : 0, 1);
        x.digit(reel, 42, (int) (v / worth));
        due("value(" + reel + ")", x.value(reel), v);
    }

    private static void newObject() {
        due("NONE", SummedBases.NONE, -1);
        due("BAD", SummedBases.BAD, -2);
        due("STATE", SummedBases.STATE, -3);
        due("FULL", SummedBases.FULL, -4);
        due("NO", SummedBases.NO, NO);
        SummedBases x = new SummedBases();
        for (int b = 0; b < 3; b++) {
            due("kind", x.of(b, 0), 2);
            due("steps", x.of(b, 1), 1);
            due("high", x.of(b, 2), 43);
        }
        for (int r = 0; r < 6; r++) {
            due("told of a new reel", x.told(r, 0), -11);
        }
        for (int r = 0; r < 3; r++) {
            due("get of a new row", x.get(r, 0), NO);
            due("put of a new row", x.put(r, 0, 1), -11);
        }
        for (int what = 0; what < 4; what++) {
            due("count(" + what + ")", x.count(what), 0);
        }
        due("back", x.back(), -3);
        due("undo", x.undo(), -3);
        // two objects share nothing
        SummedBases y = new SummedBases();
        x.write(0, 0, 9);
        x.base(1, 1, 9);
        x.feed('1');
        due("told of another object", y.told(0, 0), -11);
        due("high of another object", y.of(1, 2), 43);
        due("tape of another object", y.count(2), 0);
    }

    private static void base() {
        SummedBases x = new SummedBases();
        due("base(0, 1, 1)", x.base(0, 1, 1), 43);
        due("base(0, 1, 9)", x.base(0, 1, 9), 10);
        due("base(1, 3, 212)", x.base(1, 3, 212), 28);
        due("step 0", x.worth(1, 0, 1), 2);
        due("step 1", x.worth(1, 1, 1), 1);
        due("step 2", x.worth(1, 2, 1), 2);
        due("base(2, 8, 12345678)", x.base(2, 8, 12345678), 15);
        for (int k = 0; k < 15; k++) {
            due("step " + k, x.worth(2, k, 1), k % 8 + 1);
        }
        due("base(2, 8, 99999999)", x.base(2, 8, 99999999), 10);
        int[][] bad = {
            {-1, 1, 1}, {3, 1, 1}, {0, 0, 0}, {0, 0, 1}, {0, -1, 1}, {0, 9, 123456789}, {0, 1, 0}, {0, 1, 12}, {0, 2, 1},
            {0, 2, 10}, {0, 3, 101}, {0, 3, 11}, {0, 1, -1}, {0, 2, -11}, {0, 8, LEAST}, {0, 8, MOST}, {LEAST, 1, 1},
            {MOST, 1, 1}, {0, MOST, 1}, {0, LEAST, 1}, {0, 2, 123}, {0, 8, 1234567}, {0, 8, 123456789}, {0, 3, 110}};
        for (int[] b : bad) {
            due("base(" + b[0] + ", " + b[1] + ", " + b[2] + ")", x.base(b[0], b[1], b[2]), -2);
        }
        due("high of base 0 as it was", x.of(0, 2), 10);

        x = new SummedBases();
        x.write(0, 0, 5);
        x.write(1, 1, 6);
        x.write(2, 0, 7);
        x.digit(0, 0, 1);
        x.digit(1, 0, 9);
        x.digit(2, 0, 1);
        due("base refused", x.base(0, 1, 0), -2);
        due("count(0)", x.count(0), 3);
        due("base told as it was", x.base(0, 1, 1), 43);
        due("reel 0", x.told(0, 0), -11);
        due("reel 2", x.told(2, 0), -11);
        due("reel 1", x.told(1, 0), 1);
        due("deeds of emptied reels are gone", x.count(1), 1);
        due("back", x.back(), 0);
        due("value(1)", x.value(1), 6);
    }

    private static void of() {
        SummedBases x = mixed();
        due("kind of 1", x.of(0, 0), 2);
        due("kind of 212", x.of(1, 0), 0);
        due("kind of 9", x.of(2, 0), 1);
        due("steps of 212", x.of(1, 1), 3);
        due("high of 212", x.of(1, 2), 28);
        due("high of 9", x.of(2, 2), 10);
        x.base(0, 8, 22222222);
        due("kind of 22222222", x.of(0, 0), 3);
        due("steps of 22222222", x.of(0, 1), 8);
        x.base(0, 2, 11);
        due("kind of 11", x.of(0, 0), 2);
        x.base(0, 2, 21);
        due("kind of 21", x.of(0, 0), 0);
        x.base(0, 8, 11111112);
        due("kind of 11111112", x.of(0, 0), 0);
        x.base(0, 8, 21111111);
        due("kind of 21111111", x.of(0, 0), 0);
        x.base(0, 2, 33);
        due("kind of 33", x.of(0, 0), 1);
        due("of(-1, 0)", x.of(-1, 0), -2);
        due("of(3, 0)", x.of(3, 0), -2);
        due("of(0, -1)", x.of(0, -1), -2);
        due("of(0, 3)", x.of(0, 3), -2);
    }

    private static void worth() {
        SummedBases x = mixed();
        long[] mixedWorths = {1, 3, 4, 11, 26, 37, 100, 237, 337, 911};
        long[] nineWorths = {1, 10, 91, 829, 7552, 68797, 626725, 5709322, 52010623, 473804929};
        long[] goldenWorths = {1, 2, 3, 5, 8, 13, 21, 34, 55, 89};
        int[] steps = {2, 1, 2};
        for (int k = 0; k < 10; k++) {
            due("worth(0, " + k + ", 0)", x.worth(0, k, 0), goldenWorths[k]);
            due("worth(1, " + k + ", 0)", x.worth(1, k, 0), mixedWorths[k]);
            due("worth(2, " + k + ", 0)", x.worth(2, k, 0), nineWorths[k]);
            due("worth(0, " + k + ", 1)", x.worth(0, k, 1), 1);
            due("worth(1, " + k + ", 1)", x.worth(1, k, 1), steps[k % 3]);
            due("worth(2, " + k + ", 1)", x.worth(2, k, 1), 9);
        }
        due("worth(0, 42, 0)", x.worth(0, 42, 0), 701408733L);
        int[][] bad = {{-1, 0, 0}, {3, 0, 0}, {0, -1, 0}, {0, 43, 0}, {0, 43, 1}, {2, 10, 0}, {2, 10, 1}, {1, 28, 0},
            {0, 0, 2}, {0, 0, -1}, {0, LEAST, 0}, {0, MOST, 0}};
        for (int[] b : bad) {
            due("worth(" + b[0] + ", " + b[1] + ", " + b[2] + ")", x.worth(b[0], b[1], b[2]), NO);
        }
    }

    private static void top() {
        SummedBases x = mixed();
        due("top(0)", x.top(0), 1134903169L);
        due("top(1)", x.top(1), 1233950650L);
        due("top(2)", x.top(2), 4316254983L);
        due("top(-1)", x.top(-1), NO);
        due("top(3)", x.top(3), NO);
    }

    private static void taken() {
        SummedBases x = new SummedBases();
        int[] rows = {12, 33, 11, 22};
        int[][] due = {{0, -13, -13, -13}, {1, 1, -13, -13}, {2, 2, 2, -13}, {3, 3, -13, 3}};
        for (int kind = 0; kind < 4; kind++) {
            x.base(1, 2, rows[kind]);
            for (int k = 0; k < 4; k++) {
                due(rows[kind] + " taken for " + k, x.taken(1, k), due[kind][k]);
            }
        }
        due("taken(-1, 0)", x.taken(-1, 0), -2);
        due("taken(3, 0)", x.taken(3, 0), -2);
        due("taken(0, -1)", x.taken(0, -1), -2);
        due("taken(0, 4)", x.taken(0, 4), -2);
    }

    private static void write() {
        SummedBases x = mixed();
        due("write(0, 0, 100)", x.write(0, 0, 100), 3);
        dueDigits(x, 0, 0, 0, 1, 0, 1, 0, 0, 0, 0, 1);
        due("write(1, 1, 25)", x.write(1, 1, 25), 2);
        dueDigits(x, 1, 0, 1, 0, 2);
        due("write(2, 2, 808)", x.write(2, 2, 808), 2);
        dueDigits(x, 2, 0, 8, 8);
        due("write(5, 2, TOP)", x.write(5, 2, 4316254983L), 5);
        dueDigits(x, 5, 0, 9, 0, 9, 0, 9, 0, 9, 0, 9);
        due("write(5, 2, TOP + 1)", x.write(5, 2, 4316254984L), -3);
        due("write(5, 0, TOP + 1)", x.write(5, 0, 1134903170L), -3);
        due("write(5, 0, greatest)", x.write(5, 0, Long.MAX_VALUE), -3);
        due("a refused write changes nothing", x.value(5), 4316254983L);
        due("write(0, 0, TOP)", x.write(0, 0, 1134903169L), 22);
        due("write(0, 0, 0)", x.write(0, 0, 0), 0);
        due("value(0)", x.value(0), 0);
        due("write(0, 2, 3)", x.write(0, 2, 3), 1);
        due("base of reel 0", x.told(0, 0), 2);
        due("write(-1, 0, 1)", x.write(-1, 0, 1), -2);
        due("write(6, 0, 1)", x.write(6, 0, 1), -2);
        due("write(0, -1, 1)", x.write(0, -1, 1), -2);
        due("write(0, 3, 1)", x.write(0, 3, 1), -2);
        due("write(0, 0, -1)", x.write(0, 0, -1), -2);
        due("write(0, 0, NO)", x.write(0, 0, NO), -2);
        due("write(6, 0, above TOP)", x.write(6, 0, Long.MAX_VALUE), -2);
        x.digit(0, 0, 4);
        x.digit(1, 0, 4);
        due("write refused", x.write(0, 0, Long.MAX_VALUE), -3);
        due("deeds stay by that", x.count(1), 2);
        due("write(0, 0, 1)", x.write(0, 0, 1), 1);
        due("its deeds are gone, others stay", x.count(1), 1);
    }

    private static void empty() {
        SummedBases x = new SummedBases();
        due("empty(0)", x.empty(0), -11);
        x.write(0, 0, 8);
        x.write(5, 0, 8);
        x.digit(0, 1, 1);
        x.digit(5, 1, 1);
        due("empty(0)", x.empty(0), 1);
        due("count(0)", x.count(0), 1);
        due("count(1)", x.count(1), 1);
        due("value(0)", x.value(0), NO);
        due("empty(0) again", x.empty(0), -11);
        due("back()", x.back(), 0);
        due("value(5)", x.value(5), 8);
        due("empty(-1)", x.empty(-1), -2);
        due("empty(6)", x.empty(6), -2);
    }

    private static void told() {
        SummedBases x = mixed();
        x.write(0, 1, 25);
        due("base", x.told(0, 0), 1);
        due("legal", x.told(0, 1), 1);
        due("digits", x.told(0, 2), 2);
        due("highest", x.told(0, 3), 3);
        x.digit(0, 0, 1);
        due("1 below a whole step", x.told(0, 1), 0);
        x.digit(0, 1, 0);
        x.digit(0, 0, 2);
        due("a whole step at place 0", x.told(0, 1), 1);
        x.digit(0, 0, 3);
        due("above its step at place 0", x.told(0, 1), 0);
        x.digit(0, 0, 0);
        x.digit(0, 1, 2);
        due("above its step, 0 below it", x.told(0, 1), 0);
        x.digit(0, 3, 1);
        x.digit(0, 2, 1);
        x.digit(0, 1, 1);
        due("not its whole step, not 0 below it", x.told(0, 1), 1);
        due("digits", x.told(0, 2), 3);
        x.digit(0, 27, 2);
        due("the highest place", x.told(0, 3), 27);
        due("the highest place at its whole step", x.told(0, 1), 1);
        x.write(0, 1, 2);
        due("highest of 2", x.told(0, 3), 0);
        x.write(0, 1, 0);
        due("base of 0", x.told(0, 0), 1);
        due("0 is legal", x.told(0, 1), 1);
        due("digits of 0", x.told(0, 2), 0);
        due("highest of 0", x.told(0, 3), -1);
        due("told(0, -1)", x.told(0, -1), -2);
        due("told(0, 4)", x.told(0, 4), -2);
        due("told(-1, 0)", x.told(-1, 0), -2);
        due("told(6, 0)", x.told(6, 0), -2);
        due("told(1, 4), empty", x.told(1, 4), -2);
        due("told(1, 3), empty", x.told(1, 3), -11);
    }

    private static void at() {
        SummedBases x = mixed();
        x.write(0, 2, 808);
        due("at(0, 1)", x.at(0, 1), 8);
        due("at(0, 2)", x.at(0, 2), 8);
        due("at(0, 9)", x.at(0, 9), 0);
        due("at(0, 10)", x.at(0, 10), -12);
        due("at(0, -1)", x.at(0, -1), -12);
        due("at(0, MOST)", x.at(0, MOST), -12);
        due("at(1, -1)", x.at(1, -1), -11);
        due("at(-1, 0)", x.at(-1, 0), -2);
        due("at(6, 0)", x.at(6, 0), -2);
        x.write(0, 0, 701408733L);
        due("at(0, 42)", x.at(0, 42), 1);
        due("at(0, 43)", x.at(0, 43), -12);
    }

    private static void value() {
        SummedBases x = mixed();
        x.write(0, 1, 26);
        due("value(0)", x.value(0), 26);
        x.digit(0, 0, 99);
        x.digit(0, 6, 99);
        due("value(0)", x.value(0), 26 + 99 + 9900);
        x.write(1, 0, 0);
        long all = 0;
        for (int k = 0; k < 43; k++) {
            x.digit(1, k, 99);
            all += 99 * x.worth(0, k, 0);
        }
        due("value(1), all 99", x.value(1), all);
        due("value(1), beyond an int", all, 181794878199L);
        due("value(2)", x.value(2), NO);
        due("value(-1)", x.value(-1), NO);
        due("value(6)", x.value(6), NO);
    }

    private static void digit() {
        SummedBases x = mixed();
        x.write(0, 2, 808);
        due("digit(0, 1, 99)", x.digit(0, 1, 99), 8);
        due("digit(0, 1, 99) again", x.digit(0, 1, 99), 99);
        due("digit(0, 9, 1)", x.digit(0, 9, 1), 0);
        due("digit(0, 2, 0)", x.digit(0, 2, 0), 8);
        dueDigits(x, 0, 0, 99, 0, 0, 0, 0, 0, 0, 0, 1);
        due("each was a deed", x.count(1), 4);
        due("digit(-1, 0, 0)", x.digit(-1, 0, 0), -2);
        due("digit(6, 0, 0)", x.digit(6, 0, 0), -2);
        due("digit(0, 0, 100)", x.digit(0, 0, 100), -2);
        due("digit(0, 0, -1)", x.digit(0, 0, -1), -2);
        due("digit(1, 0, 100), empty", x.digit(1, 0, 100), -2);
        due("digit(1, 99, 0), empty", x.digit(1, 99, 0), -11);
        due("digit(0, 10, 0)", x.digit(0, 10, 0), -12);
        due("digit(0, -1, 0)", x.digit(0, -1, 0), -12);
        due("no refused one was a deed", x.count(1), 4);
    }

    private static void borrow() {
        SummedBases x = mixed();
        x.write(0, 1, 4);
        due("borrow(0, 0) of a 0", x.borrow(0, 0), -3);
        due("borrow(0, 1)", x.borrow(0, 1), 1);
        dueDigits(x, 0, 1, 1);
        due("borrow(0, 0)", x.borrow(0, 0), 4);
        dueDigits(x, 0, 4);
        due("value(0)", x.value(0), 4);
        due("deeds", x.count(1), 2);
        x.write(0, 1, 11);
        due("borrow(0, 2)", x.borrow(0, 2), 2);
        dueDigits(x, 0, 0, 1, 2);
        x.write(0, 0, 0);
        x.digit(0, 1, 2);
        x.digit(0, 0, 97);
        due("borrow(0, 0) to 99", x.borrow(0, 0), 99);
        due("borrow(0, 0) above 99", x.borrow(0, 0), -3);
        dueDigits(x, 0, 99, 1);
        x.write(0, 0, 0);
        x.digit(0, 5, 1);
        x.digit(0, 4, 99);
        due("borrow(0, 4) above 99", x.borrow(0, 4), -3);
        x.digit(0, 4, 98);
        x.digit(0, 3, 99);
        due("borrow(0, 4), the one below above 99", x.borrow(0, 4), -3);
        x.digit(0, 3, 98);
        due("borrow(0, 4) to 99 twice", x.borrow(0, 4), 99);
        dueDigits(x, 0, 0, 0, 0, 99, 99);
        x.digit(0, 42, 1);
        due("borrow(0, 41)", x.borrow(0, 41), 1);
        due("at(0, 40)", x.at(0, 40), 1);
        due("borrow(0, 42)", x.borrow(0, 42), -12);
        due("borrow(0, -1)", x.borrow(0, -1), -12);
        due("borrow(0, MOST)", x.borrow(0, MOST), -12);
        due("borrow(-1, 0)", x.borrow(-1, 0), -2);
        due("borrow(6, 0)", x.borrow(6, 0), -2);
        due("borrow(1, 42), empty", x.borrow(1, 42), -11);
        x.write(1, 2, 0);
        due("borrow(1, 8)", x.borrow(1, 8), -3);
        due("borrow(1, 9)", x.borrow(1, 9), -12);
    }

    private static void carry() {
        SummedBases x = mixed();
        x.write(0, 1, 0);
        x.digit(0, 0, 4);
        due("carry(0, 1) of a 0", x.carry(0, 1), -3);
        due("carry(0, 0)", x.carry(0, 0), 1);
        dueDigits(x, 0, 1, 1);
        due("carry(0, 0) again", x.carry(0, 0), -3);
        due("carry(0, 1)", x.carry(0, 1), 1);
        dueDigits(x, 0, 0, 0, 1);
        due("value(0)", x.value(0), 4);
        due("deeds", x.count(1), 3);
        x.digit(0, 0, 3);
        due("carry(0, 0) of just W1", x.carry(0, 0), 1);
        x.digit(0, 0, 2);
        due("carry(0, 0) of less", x.carry(0, 0), -3);
        x.write(0, 1, 0);
        x.digit(0, 2, 2);
        due("carry(0, 2), a 0 below it", x.carry(0, 2), -3);
        x.digit(0, 1, 1);
        x.digit(0, 3, 99);
        due("carry(0, 2) above 99", x.carry(0, 2), -3);
        x.digit(0, 3, 98);
        due("carry(0, 2) to 99", x.carry(0, 2), 99);
        dueDigits(x, 0, 0, 0, 0, 99);
        x.write(0, 2, 0);
        x.digit(0, 8, 10);
        x.digit(0, 7, 1);
        due("carry(0, 8)", x.carry(0, 8), 1);
        dueDigits(x, 0, 0, 0, 0, 0, 0, 0, 0, 0, 1, 1);
        due("carry(0, 9)", x.carry(0, 9), -12);
        due("carry(0, -1)", x.carry(0, -1), -12);
        due("carry(-1, 0)", x.carry(-1, 0), -2);
        due("carry(6, 0)", x.carry(6, 0), -2);
        due("carry(1, 9), empty", x.carry(1, 9), -11);
    }

    private static void settle() {
        SummedBases x = mixed();
        x.write(0, 0, 0);
        x.digit(0, 0, 10);
        // 10 -> 8 1 -> carry at 1: 7 0 1 -> 5 1 1: at 2: 5 0 0 1 -> 3 1 0 1 -> 2 0 1 1 -> 2 0 0 0 1 -> 0 1 0 0 1
        due("settle(0)", x.settle(0), 8);
        dueDigits(x, 0, 0, 1, 0, 0, 1);
        due("value(0)", x.value(0), 10);
        due("settle(0) again", x.settle(0), 0);
        due("both are deeds", x.count(1), 3);
        // 2 0 0: no carry is there, yet it isn't legal
        x.write(1, 0, 0);
        x.digit(1, 2, 2);
        due("settle(1)", x.settle(1), 0);
        dueDigits(x, 1, 0, 0, 2);
        // the greatest place first: at 2, then nothing is left at 1
        x.write(1, 0, 0);
        x.digit(1, 2, 1);
        x.digit(1, 1, 1);
        x.digit(1, 0, 1);
        due("settle(1)", x.settle(1), 1);
        dueDigits(x, 1, 1, 0, 0, 1);
        // a digit that is 99 lets none come to it, till it is less itself
        x.write(1, 0, 0);
        x.digit(1, 42, 99);
        x.digit(1, 41, 5);
        x.digit(1, 40, 5);
        due("settle(1)", x.settle(1), 0);
        due("at(1, 42)", x.at(1, 42), 99);
        // all that can be carried is
        for (int k = 0; k < 43; k++) {
            x.digit(1, k, k == 42 ? 0 : 99);
        }
        long v = x.value(1);
        due("settle(1) carries", x.settle(1) > 0 ? 1 : 0, 1);
        due("value(1)", x.value(1), v);
        for (int k = 0; k < 42; k++) {
            due("carry(1, " + k + ")", x.carry(1, k), -3);
        }
        due("settle(-1)", x.settle(-1), -2);
        due("settle(6)", x.settle(6), -2);
        due("settle(2)", x.settle(2), -11);
    }

    private static void right() {
        SummedBases x = mixed();
        x.write(0, 0, 0);
        x.digit(0, 2, 2);
        // 6 = 5 + 1
        due("right(0)", x.right(0), 3);
        dueDigits(x, 0, 1, 0, 0, 1);
        due("right(0) again", x.right(0), 0);
        due("deeds", x.count(1), 3);
        x.digit(0, 42, 2);
        due("right(0) above TOP", x.right(0), -3);
        due("at(0, 42)", x.at(0, 42), 2);
        due("no deed", x.count(1), 4);
        writeGreat(x, 1, 1134903170L);
        due("right(1), TOP + 1", x.right(1), -3);
        x.digit(1, 0, x.at(1, 0) + 1);
        x.borrow(1, 41);
        due("right(1), TOP + 2", x.right(1), -3);
        writeGreat(x, 1, 1134903169L);
        x.borrow(1, 41);
        due("right(1), TOP", x.right(1) > 0 ? 1 : 0, 1);
        due("value(1)", x.value(1), 1134903169L);
        due("legal", x.told(1, 1), 1);
        due("right(-1)", x.right(-1), -2);
        due("right(6)", x.right(6), -2);
        due("right(5)", x.right(5), -11);
    }

    private static void shift() {
        SummedBases x = mixed();
        x.write(0, 2, 0);
        for (int k = 0; k < 10; k++) {
            x.digit(0, k, k + 1);
        }
        due("shift(0, 2)", x.shift(0, 2), 2);
        dueDigits(x, 0, 0, 0, 1, 2, 3, 4, 5, 6, 7, 8);
        due("shift(0, 0)", x.shift(0, 0), 0);
        dueDigits(x, 0, 0, 0, 1, 2, 3, 4, 5, 6, 7, 8);
        due("shift(0, -3)", x.shift(0, -3), 1);
        dueDigits(x, 0, 2, 3, 4, 5, 6, 7, 8);
        due("shift(0, 9)", x.shift(0, 9), 6);
        dueDigits(x, 0, 0, 0, 0, 0, 0, 0, 0, 0, 0, 2);
        due("shift(0, -9)", x.shift(0, -9), 0);
        dueDigits(x, 0, 2);
        due("shift(0, -1)", x.shift(0, -1), 1);
        dueDigits(x, 0);
        due("shift(0, 5) of 0", x.shift(0, 5), 0);
        x.write(1, 0, 1);
        due("shift(1, 9)", x.shift(1, 9), 0);
        due("value(1)", x.value(1), 89);
        due("shift(0, 10)", x.shift(0, 10), -2);
        due("shift(0, -10)", x.shift(0, -10), -2);
        due("shift(-1, 0)", x.shift(-1, 0), -2);
        due("shift(6, 0)", x.shift(6, 0), -2);
        due("shift(2, 10), empty", x.shift(2, 10), -2);
        due("shift(2, 9), empty", x.shift(2, 9), -11);
        x.write(1, 0, 1);
        x.shift(1, 0);
        due("a shift by 0 is a deed", x.back() >= 0 ? x.value(1) : NO, 1);
    }

    private static void on() {
        SummedBases x = mixed();
        x.write(0, 0, 12);
        // 12 = 8 + 3 + 1, 13
        due("on(0, 1)", x.on(0, 1), 4);
        dueDigits(x, 0, 0, 0, 0, 0, 0, 1);
        due("on(0, -1)", x.on(0, -1), 4);
        dueDigits(x, 0, 1, 0, 1, 0, 1);
        due("on(0, 0)", x.on(0, 0), 0);
        due("on(0, -12)", x.on(0, -12), 3);
        due("on(0, -1) from 0", x.on(0, -1), -4);
        due("on(0, 100000)", x.on(0, 100000) > 0 ? x.value(0) : NO, 100000);
        due("on(0, -100000)", x.on(0, -100000) > 0 ? x.value(0) : NO, 0);
        due("on(0, 100001)", x.on(0, 100001), -2);
        due("on(0, -100001)", x.on(0, -100001), -2);
        due("deeds", x.count(1), 6);
        x.write(1, 2, 4316254983L);
        due("on(1, 1) from TOP", x.on(1, 1), -4);
        due("on(1, -1) from TOP", x.on(1, -1), 2);
        due("on(1, 2)", x.on(1, 2), -4);
        due("on(1, 1)", x.on(1, 1), 2);
        due("value(1)", x.value(1), 4316254983L);
        x.digit(1, 9, 99);
        due("on(1, -1), not legal", x.on(1, -1), -3);
        due("on(1, 100000), not legal", x.on(1, 100000), -3);
        due("on(-1, 0)", x.on(-1, 0), -2);
        due("on(6, 0)", x.on(6, 0), -2);
        due("on(2, 100001), empty", x.on(2, 100001), -2);
        due("on(2, 1), empty", x.on(2, 1), -11);
    }

    private static void soon() {
        SummedBases x = mixed();
        x.write(0, 0, 0);
        due("soon(0, 0) of 0", x.soon(0, 0), 1);
        due("soon(0, 1) of 0", x.soon(0, 1), 2);
        due("soon(0, 5) of 0", x.soon(0, 5), 13);
        due("soon(0, 14) of 0", x.soon(0, 14), 987);
        due("soon(0, 15) of 0", x.soon(0, 15), -1);
        x.write(0, 0, 2);
        due("soon(0, 0), held by a 1 above", x.soon(0, 0), 2);
        due("soon(0, 1), whole", x.soon(0, 1), 1);
        // 597 and 1000 are 1597, which is W15
        x.write(0, 0, 597);
        due("soon(0, 15) at 1000", x.soon(0, 15), 1000);
        x.write(0, 0, 596);
        due("soon(0, 15) at 1001", x.soon(0, 15), -1);
        due("soon changes nothing", x.value(0), 596);
        due("soon is no deed", x.count(1), 0);
        x.write(0, 0, 1134903169L);
        for (int k = 0; k < 43; k++) {
            due("soon(0, " + k + ") at TOP", x.soon(0, k), -1);
        }
        // at TOP less 1: TOP is 1 0 1 0 .. 1 0 1 with place 0 being 1
        due("TOP at place 0", x.at(0, 0), 1);
        x.write(0, 0, 1134903168L);
        due("soon(0, 0) ahead of TOP", x.soon(0, 0), 1);
        due("soon(0, 1) ahead of TOP", x.soon(0, 1), -1);
        x.write(1, 2, 5);
        due("soon(1, 0)", x.soon(1, 0), 1);
        due("soon(1, 1)", x.soon(1, 1), 5);
        due("soon(1, 2)", x.soon(1, 2), 86);
        due("soon(1, 3)", x.soon(1, 3), 824);
        due("soon(1, 4)", x.soon(1, 4), -1);
        due("soon(1, 10)", x.soon(1, 10), -12);
        due("soon(1, -1)", x.soon(1, -1), -12);
        x.digit(1, 0, 10);
        due("soon(1, 0), not legal", x.soon(1, 0), -3);
        due("soon(1, 10), not legal", x.soon(1, 10), -12);
        due("soon(2, 0), empty", x.soon(2, 0), -11);
        due("soon(2, 99), empty", x.soon(2, 99), -11);
        due("soon(-1, 0)", x.soon(-1, 0), -2);
        due("soon(6, 0)", x.soon(6, 0), -2);
        soonAsOnTells();
    }

    /** What soon() tells of all places is what the odometer, one by one, does. */
    private static void soonAsOnTells() {
        for (int base = 0; base < 2; base++) {
            for (int v = 0; v < 60; v++) {
                SummedBases x = mixed();
                for (int k = 0; k < 6; k++) {
                    x.write(0, base, v);
                    int was = x.at(0, k);
                    int told = x.soon(0, k);
                    int steps = 0;
                    while (x.at(0, k) == was && steps < 100) {
                        x.on(0, 1);
                        steps++;
                    }
                    due("soon of " + v + " in base " + base + ", place " + k, told, steps);
                }
            }
        }
    }

    private static void sum() {
        SummedBases x = mixed();
        x.write(0, 0, 12);
        x.write(1, 0, 7);
        due("sum 0", x.sum(0, 1, 2, 0), 5);
        dueDigits(x, 2, 1, 1, 1, 1, 1);
        due("sum 1", x.sum(0, 1, 2, 1), 1);
        due("12 - 7", x.value(2), 5);
        due("sum 1, below 0", x.sum(1, 0, 2, 1), -3);
        due("sum 1, 0", x.sum(1, 1, 3, 1), 0);
        due("7 - 7", x.value(3), 0);
        due("sum 2", x.sum(0, 1, 2, 2), 3);
        due("12 * 7", x.value(2), 84);
        due("legal", x.told(2, 1), 1);
        due("sum 3", x.sum(2, 0, 2, 3), 2);
        due("84 / 12", x.value(2), 7);
        due("sum 3, cut", x.sum(0, 1, 2, 3), 1);
        due("12 / 7", x.value(2), 1);
        due("sum 4", x.sum(0, 1, 2, 4), 1);
        due("12 % 7", x.value(2), 5);
        due("sum 3 by 0", x.sum(0, 3, 2, 3), -3);
        due("sum 4 by 0", x.sum(0, 3, 2, 4), -3);
        due("sum 2 by 0", x.sum(0, 3, 5, 2), 0);
        due("sum 2 of 0", x.sum(3, 0, 5, 2), 0);
        due("value(2)", x.value(2), 5);
        sumToItself();
        sumRefusals();
        sumOfGreatOnes();
    }

    private static void sumToItself() {
        SummedBases x = mixed();
        x.write(0, 2, 55);
        x.digit(0, 1, 49);
        due("value(0)", x.value(0), 495);
        due("sum(0, 0, 0, 0)", x.sum(0, 0, 0, 0), 2);
        dueDigits(x, 0, 10, 98);
        due("its deeds are gone", x.count(1), 0);
        due("a digit above 99", x.sum(0, 0, 1, 0), -3);
        due("a digit above 99, to itself", x.sum(0, 0, 0, 0), -3);
        dueDigits(x, 0, 10, 98);
        x.write(1, 2, 0);
        x.digit(1, 0, 89);
        x.digit(1, 1, 1);
        due("99 may be", x.sum(0, 1, 1, 0), 2);
        dueDigits(x, 1, 99, 99);
        due("sum(0, 0, 0, 1)", x.sum(0, 0, 0, 1), 0);
        due("base", x.told(0, 0), 2);
    }

    private static void sumRefusals() {
        SummedBases x = mixed();
        x.write(0, 0, 12);
        x.write(1, 1, 7);
        x.write(3, 2, 9);
        x.digit(3, 0, 8);
        due("unlike bases", x.sum(0, 1, 3, 0), -13);
        due("unlike bases", x.sum(0, 1, 3, 4), -13);
        due("an empty one", x.sum(2, 0, 3, 0), -11);
        due("an empty other", x.sum(0, 2, 3, 0), -11);
        due("sum(-1, 0, 0, 0)", x.sum(-1, 0, 0, 0), -2);
        due("sum(6, 0, 0, 0)", x.sum(6, 0, 0, 0), -2);
        due("sum(0, -1, 0, 0)", x.sum(0, -1, 0, 0), -2);
        due("sum(0, 6, 0, 0)", x.sum(0, 6, 0, 0), -2);
        due("sum(0, 0, -1, 0)", x.sum(0, 0, -1, 0), -2);
        due("sum(0, 0, 6, 0)", x.sum(0, 0, 6, 0), -2);
        due("sum(0, 0, 0, -1)", x.sum(0, 0, 0, -1), -2);
        due("sum(0, 0, 0, 5)", x.sum(0, 0, 0, 5), -2);
        due("sum(2, 2, 2, 5), empty", x.sum(2, 2, 2, 5), -2);
        due("deeds stay", x.count(1), 1);
        due("value(3)", x.value(3), 8);
        due("to of another base", x.sum(0, 0, 3, 1), 0);
        due("its base then", x.told(3, 0), 0);
        due("deeds of it are gone", x.count(1), 0);
        SummedBases y = new SummedBases();
        y.write(0, 0, 3);
        y.write(1, 1, 3);
        due("bases of the same row are two", y.sum(0, 1, 2, 0), -13);
    }

    private static void sumOfGreatOnes() {
        SummedBases x = new SummedBases();
        writeGreat(x, 0, 1L << 32);
        x.write(1, 0, 1);
        due("2^64, which is 0 as a long", x.sum(0, 0, 2, 2), -3);
        writeGreat(x, 3, 3689348815L);
        writeGreat(x, 4, 5000000000L);
        due("18446744075000000000, which is small as a long", x.sum(3, 4, 2, 2), -3);
        due("to stays empty", x.told(2, 0), -11);
        due("a quotient above TOP", x.sum(0, 1, 2, 3), -3);
        due("a difference above TOP", x.sum(0, 1, 2, 1), -3);
        due("a product above TOP", x.sum(0, 1, 2, 2), -3);
        due("a rest above TOP", x.sum(3, 0, 2, 4), -3);
        due("a quotient of great ones", x.sum(4, 3, 2, 3), 1);
        due("value(2)", x.value(2), 1);
        due("a rest of great ones", x.sum(0, 3, 2, 4) > 0 ? x.value(2) : NO, (1L << 32) - 3689348815L);
        due("a difference of great ones", x.sum(4, 0, 2, 1) > 0 ? x.value(2) : NO, 5000000000L - (1L << 32));
        x.write(1, 0, 1134903169L);
        x.write(2, 0, 1);
        due("a product that is TOP", x.sum(1, 2, 3, 2), 22);
        due("value(3)", x.value(3), 1134903169L);
        x.write(1, 0, 567451585L);
        x.write(2, 0, 2);
        due("a product that is TOP and 1", x.sum(1, 2, 3, 2), -3);
        due("a digit sum above TOP may be", x.sum(0, 0, 0, 0) > 0 ? x.value(0) : NO, 1L << 33);
    }

    private static void like() {
        SummedBases x = mixed();
        x.write(0, 0, 11);
        x.write(1, 1, 11);
        x.write(2, 0, 11);
        x.write(3, 0, 12);
        due("11 and 11 of another base", x.like(0, 1, 0), 1);
        due("not the same digits", x.like(0, 1, 1), 0);
        due("11 and 11", x.like(0, 2, 1), 1);
        due("11 and 11", x.like(0, 2, 0), 1);
        due("11 and 12", x.like(0, 3, 0), 0);
        due("11 and 12", x.like(0, 3, 1), 0);
        due("itself", x.like(0, 0, 1), 1);
        x.borrow(2, 3);
        due("the same value, other digits", x.like(0, 2, 0), 1);
        due("the same value, other digits", x.like(0, 2, 1), 0);
        x.write(0, 0, 0);
        x.write(1, 1, 0);
        due("0 of two bases", x.like(0, 1, 1), 0);
        due("0 of two bases", x.like(0, 1, 0), 1);
        due("like(0, 4, 0)", x.like(0, 4, 0), -11);
        due("like(4, 0, 1)", x.like(4, 0, 1), -11);
        due("like(4, 0, 2)", x.like(4, 0, 2), -2);
        due("like(0, 0, -1)", x.like(0, 0, -1), -2);
        due("like(-1, 0, 0)", x.like(-1, 0, 0), -2);
        due("like(6, 0, 0)", x.like(6, 0, 0), -2);
        due("like(0, -1, 0)", x.like(0, -1, 0), -2);
        due("like(0, 6, 0)", x.like(0, 6, 0), -2);
    }

    private static void ways() {
        SummedBases x = mixed();
        // 10 = 8 2 = 5 3 2
        due("ways(0, 10, 1, 0)", x.ways(0, 10, 1, 0), 2);
        due("ways(0, 10, 1, 1)", x.ways(0, 10, 1, 1), 2);
        // 6 of 1, 3, 4, each twice at most: 4 1 1, 3 3
        due("ways(1, 6, 2, 0)", x.ways(1, 6, 2, 0), 2);
        due("ways(1, 6, 2, 1)", x.ways(1, 6, 2, 1), 2);
        // 8 of them: 4 4, 4 3 1, 3 3 1 1; each once: 4 3 1
        due("ways(1, 8, 2, 0)", x.ways(1, 8, 2, 0), 3);
        due("ways(1, 8, 2, 1)", x.ways(1, 8, 2, 1), 2);
        due("ways(1, 8, 1, 0)", x.ways(1, 8, 1, 0), 1);
        due("ways(1, 8, 1, 1)", x.ways(1, 8, 1, 1), 3);
        // greedy is not always by the fewest: 6 is 4 1 1 and 3 3
        due("none", x.ways(1, 2, 1, 0), 0);
        due("none", x.ways(1, 2, 1, 1), -1);
        due("ways(2, 99, 9, 0)", x.ways(2, 99, 9, 0), 2);
        due("ways(2, 99, 9, 1)", x.ways(2, 99, 9, 1), 9);
        due("ways(2, 99, 7, 0)", x.ways(2, 99, 7, 0), 0);
        due("ways(2, 9, 8, 1)", x.ways(2, 9, 8, 1), -1);
        due("ways(2, 0, 9, 0)", x.ways(2, 0, 9, 0), 1);
        due("ways(2, 0, 9, 1)", x.ways(2, 0, 9, 1), 0);
        due("ways(1, 1000000000, 9, 0)", x.ways(1, 1000000000L, 9, 0), 335888007758566773L);
        due("ways(0, 1000000001, 9, 0)", x.ways(0, 1000000001L, 9, 0), NO);
        due("ways(0, -1, 9, 0)", x.ways(0, -1, 9, 0), NO);
        due("ways(0, greatest, 9, 0)", x.ways(0, Long.MAX_VALUE, 9, 0), NO);
        due("ways(-1, 1, 1, 0)", x.ways(-1, 1, 1, 0), NO);
        due("ways(3, 1, 1, 0)", x.ways(3, 1, 1, 0), NO);
        due("ways(0, 1, 0, 0)", x.ways(0, 1, 0, 0), NO);
        due("ways(0, 1, 10, 0)", x.ways(0, 1, 10, 0), NO);
        due("ways(0, 1, 1, -1)", x.ways(0, 1, 1, -1), NO);
        due("ways(0, 1, 1, 2)", x.ways(0, 1, 1, 2), NO);
        waysAsTheyAreCounted();
    }

    /** All ways of small numbers, counted worth by worth over all numbers below a bound. */
    private static void waysAsTheyAreCounted() {
        int end = 120;
        for (int base = 0; base < 3; base++) {
            for (int m = 1; m <= 9; m++) {
                SummedBases x = mixed();
                long[] ways = new long[end];
                int[] fewest = new int[end];
                java.util.Arrays.fill(fewest, MOST);
                ways[0] = 1;
                fewest[0] = 0;
                for (int k = 0; k < 10; k++) {
                    int worth = (int) x.worth(base, k, 0);
                    long[] more = new long[end];
                    int[] few = new int[end];
                    java.util.Arrays.fill(few, MOST);
                    for (int v = 0; v < end; v++) {
                        for (int c = 0; c <= m && c * worth <= v; c++) {
                            more[v] += ways[v - c * worth];
                            int below = fewest[v - c * worth];
                            few[v] = Math.min(few[v], below == MOST ? MOST : below + c);
                        }
                    }
                    ways = more;
                    fewest = few;
                }
                for (int v = 0; v < end && v < 89; v++) {
                    String call = "ways(" + base + ", " + v + ", " + m + ")";
                    due(call, x.ways(base, v, m, 0), ways[v]);
                    due(call + " fewest", x.ways(base, v, m, 1), fewest[v] == MOST ? -1 : fewest[v]);
                }
            }
        }
    }

    private static void crossed() {
        SummedBases x = mixed();
        // 12: 1 0 1 0 1 and 1 0 0 1
        due("crossed(0, 1, 12)", x.crossed(0, 1, 12), 28 - 3);
        // 12: 1 0 1 0 1 and 2 1
        due("crossed(0, 2, 12)", x.crossed(0, 2, 12), 10 - 4);
        due("crossed(2, 0, 12)", x.crossed(2, 0, 12), 10 - 4);
        due("crossed(1, 1, 12)", x.crossed(1, 1, 12), 28);
        due("crossed(0, 0, 0)", x.crossed(0, 0, 0), 43);
        due("crossed(0, 2, 0)", x.crossed(0, 2, 0), 10);
        due("crossed(0, 2, TOP of 0 and 1)", x.crossed(0, 2, 1134903170L), -3);
        due("crossed(2, 0, TOP of 0 and 1)", x.crossed(2, 0, 1134903170L), -3);
        due("crossed(0, 0, TOP)", x.crossed(0, 0, 1134903169L), 43);
        due("crossed(2, 2, TOP)", x.crossed(2, 2, 4316254983L), 10);
        due("crossed(-1, 0, 1)", x.crossed(-1, 0, 1), -2);
        due("crossed(3, 0, 1)", x.crossed(3, 0, 1), -2);
        due("crossed(0, -1, 1)", x.crossed(0, -1, 1), -2);
        due("crossed(0, 3, 1)", x.crossed(0, 3, 1), -2);
        due("crossed(0, 0, -1)", x.crossed(0, 0, -1), -2);
        due("crossed(0, 3, greatest)", x.crossed(0, 3, Long.MAX_VALUE), -2);
    }

    private static void print() {
        SummedBases x = mixed();
        x.write(0, 1, 0);
        dueText(x, 0, "0");
        x.digit(0, 0, 7);
        dueText(x, 0, "7");
        x.digit(0, 0, 10);
        dueText(x, 0, "10");
        x.digit(0, 3, 9);
        x.digit(0, 2, 99);
        dueText(x, 0, "9.99.0.10");
        x.digit(0, 0, 0);
        x.digit(0, 2, 0);
        dueText(x, 0, "9.0.0.0");
        x.write(1, 0, 0);
        StringBuilder longest = new StringBuilder("90");
        x.digit(1, 42, 90);
        for (int k = 41; k >= 0; k--) {
            x.digit(1, k, 57 + k);
            longest.append('.').append(57 + k);
        }
        dueText(x, 1, longest.toString());
        due("the longest", x.print(1, -1), 128);
        due("print(1, MOST)", x.print(1, MOST), -12);
        due("print(1, -2)", x.print(1, -2), -2);
        due("print(1, LEAST)", x.print(1, LEAST), -2);
        due("print(2, -2), empty", x.print(2, -2), -2);
        due("print(2, -1), empty", x.print(2, -1), -11);
        due("print(2, 500), empty", x.print(2, 500), -11);
        due("print(-1, 0)", x.print(-1, 0), -2);
        due("print(6, 0)", x.print(6, 0), -2);
    }

    private static void feed() {
        SummedBases x = new SummedBases();
        due("feed(-1)", x.feed(-1), -2);
        due("feed(128)", x.feed(128), -2);
        due("feed(MOST)", x.feed(MOST), -2);
        due("feed(0)", x.feed(0), 1);
        due("feed(127)", x.feed(127), 2);
        for (int n = 3; n <= 80; n++) {
            due("feed(49)", x.feed(49), n);
        }
        due("feed of one too many", x.feed(49), -4);
        due("feed(128) then", x.feed(128), -2);
        due("count(2)", x.count(2), 80);
        due("read", x.read(0, 0), -100);
        due("feed(49)", x.feed(49), 1);
    }

    private static void read() {
        SummedBases x = mixed();
        feedText(x, "1.0.12");
        due("read(2, 0)", x.read(2, 0), 3);
        dueDigits(x, 2, 12, 0, 1);
        due("the tape is empty", x.count(2), 0);
        feedText(x, "00.07.99");
        due("read(2, 1)", x.read(2, 1), 3);
        dueDigits(x, 2, 99, 7);
        due("its base", x.told(2, 0), 1);
        String[] faulty = {"", ".", "x", "1.", "1..2", "123", "1.234", "1x", "1.x", " 1", "1 ", "01.", "0.100", "-1", "1/", "1:",
            "12.34,5", "\u007f", "1.2\u0000"};
        int[] faults = {0, 0, 0, 2, 2, 2, 4, 1, 2, 0, 1, 3, 4, 0, 1, 1, 5, 0, 3};
        x.digit(2, 0, 1);
        for (int i = 0; i < faulty.length; i++) {
            feedText(x, faulty[i]);
            due("read of '" + faulty[i] + "'", x.read(2, 0), -100 - faults[i]);
            due("the tape is empty", x.count(2), 0);
        }
        due("the reel stays", x.value(2), 22);
        due("its base stays", x.told(2, 0), 1);
        due("its deeds stay", x.count(1), 1);
        feedText(x, "1");
        due("read(-1, 0)", x.read(-1, 0), -2);
        due("read(6, 0)", x.read(6, 0), -2);
        due("read(0, -1)", x.read(0, -1), -2);
        due("read(0, 3)", x.read(0, 3), -2);
        due("the tape stays", x.count(2), 1);
        due("read(2, 0)", x.read(2, 0), 1);
        due("its deeds are gone", x.count(1), 0);
        readAsManyAsHigh(x);
    }

    private static void readAsManyAsHigh(SummedBases x) {
        String ten = "1.2.3.4.5.6.7.8.9.10";
        feedText(x, ten);
        due("read of ten", x.read(0, 2), 10);
        dueDigits(x, 0, 10, 9, 8, 7, 6, 5, 4, 3, 2, 1);
        String[] behind = {".", ".1", ".x", "..", "1", "x", ".11.12"};
        int[] faults = {21, 21, 21, 21, 20, 20, 21};
        for (int i = 0; i < behind.length; i++) {
            feedText(x, ten + behind[i]);
            due("read of " + ten + behind[i], x.read(0, 2), -100 - faults[i]);
        }
        feedText(x, "1.1.1.1.1.1.1.1.1.1.1.1.1.1.1.1.1.1.1.1.1.1.1.1.1.1.1.1.1.1.1.1.1.1.1.1.1.1.1.1");
        due("79 bytes", x.count(2), 79);
        due("a point more", x.feed('.'), 80);
        due("it ends too early", x.read(0, 0), -180);
    }

    private static void back() {
        SummedBases x = mixed();
        due("back()", x.back(), -3);
        x.write(0, 0, 5);
        x.write(1, 0, 6);
        x.digit(0, 0, 3);
        x.digit(1, 0, 4);
        x.borrow(0, 2);
        x.carry(1, 0);
        x.settle(0);
        x.right(1);
        x.shift(0, 1);
        x.on(1, 1);
        due("count(1)", x.count(1), 8);
        due("back of on()", x.back(), 7);
        due("value(1)", x.value(1), 9);
        due("back of shift()", x.back(), 6);
        due("value(0)", x.value(0), 8);
        due("legal then", x.told(1, 1), 1);
        due("back of right()", x.back(), 5);
        dueDigits(x, 1, 2, 1, 0, 1);
        due("back of settle()", x.back(), 4);
        dueDigits(x, 0, 3, 1, 1);
        due("back of carry()", x.back(), 3);
        dueDigits(x, 1, 4, 0, 0, 1);
        due("back of borrow()", x.back(), 2);
        dueDigits(x, 0, 3, 0, 0, 1);
        due("back of digit()", x.back(), 1);
        due("value(1)", x.value(1), 6);
        due("back of digit()", x.back(), 0);
        due("value(0)", x.value(0), 5);
        due("back()", x.back(), -3);
        backAtMostTwelve();
        backAmongOthers();
    }

    private static void backAtMostTwelve() {
        SummedBases x = new SummedBases();
        x.write(0, 0, 0);
        for (int d = 1; d <= 15; d++) {
            x.digit(0, 0, d);
            due("count(1)", x.count(1), Math.min(d, 12));
        }
        for (int d = 14; d >= 3; d--) {
            due("back()", x.back(), d - 3);
            due("at(0, 0)", x.at(0, 0), d);
        }
        due("the eldest are gone", x.back(), -3);
        due("at(0, 0)", x.at(0, 0), 3);
    }

    private static void backAmongOthers() {
        SummedBases x = new SummedBases();
        for (int r = 0; r < 3; r++) {
            x.write(r, 0, 0);
        }
        for (int n = 0; n < 12; n++) {
            x.digit(n % 3, n, n + 1);
        }
        due("count(1)", x.count(1), 12);
        x.write(1, 0, 0);
        due("count(1)", x.count(1), 8);
        x.digit(1, 0, 50);
        int[] reels = {1, 2, 0, 2, 0, 2, 0, 2, 0};
        int[] places = {0, 11, 9, 8, 6, 5, 3, 2, 0};
        for (int i = 0; i < reels.length; i++) {
            due("a digit to go", x.at(reels[i], places[i]) > 0 ? 1 : 0, 1);
            due("back()", x.back(), 8 - i);
            due("that digit then", x.at(reels[i], places[i]), 0);
        }
        due("back()", x.back(), -3);
    }

    private static void row() {
        SummedBases x = new SummedBases();
        due("row(0, 60)", x.row(0, 60), 1);
        due("put(0, 59, 5)", x.put(0, 59, 5), 1);
        due("put(0, 0, 5)", x.put(0, 0, 5), 1);
        due("get(0, 60)", x.get(0, 60), NO);
        due("row(0, 60) again", x.row(0, 60), 1);
        due("all are 0", x.get(0, 59), 0);
        due("all are 0", x.get(0, 0), 0);
        due("row(1, 0)", x.row(1, 0), 1);
        due("get(1, 0)", x.get(1, 0), NO);
        due("put(1, 0, 1)", x.put(1, 0, 1), -12);
        due("count(3)", x.count(3), 2);
        due("row(0, -1)", x.row(0, -1), 1);
        due("row(0, -1) again", x.row(0, -1), 1);
        due("count(3)", x.count(3), 1);
        due("put(0, 0, 1)", x.put(0, 0, 1), -11);
        due("row(1, 61)", x.row(1, 61), -2);
        due("row(1, MOST)", x.row(1, MOST), -2);
        due("row(1, -2)", x.row(1, -2), -14);
        due("row(1, LEAST)", x.row(1, LEAST), -14);
        due("row(-1, 1)", x.row(-1, 1), -2);
        due("row(3, 1)", x.row(3, 1), -2);
        due("row(3, -2)", x.row(3, -2), -2);
    }

    private static void put() {
        SummedBases x = new SummedBases();
        x.row(2, 3);
        due("put(2, 0, NO)", x.put(2, 0, NO), 1);
        due("put(2, 2, 7)", x.put(2, 2, 7), 1);
        due("get(2, 2)", x.get(2, 2), 7);
        due("get(2, 1)", x.get(2, 1), 0);
        due("put(2, 3, 1)", x.put(2, 3, 1), -12);
        due("put(2, -1, 1)", x.put(2, -1, 1), -12);
        due("put(1, -1, 1)", x.put(1, -1, 1), -11);
        due("put(-1, 0, 1)", x.put(-1, 0, 1), -2);
        due("put(3, 0, 1)", x.put(3, 0, 1), -2);
    }

    private static void get() {
        SummedBases x = new SummedBases();
        x.row(0, 2);
        x.put(0, 1, Long.MAX_VALUE);
        due("get(0, 0)", x.get(0, 0), 0);
        due("get(0, 1)", x.get(0, 1), Long.MAX_VALUE);
        due("get(0, 2)", x.get(0, 2), NO);
        due("get(0, -1)", x.get(0, -1), NO);
        due("get(1, 0)", x.get(1, 0), NO);
        due("get(-1, 0)", x.get(-1, 0), NO);
        due("get(3, 0)", x.get(3, 0), NO);
    }

    private static void dueRow(SummedBases x, int row, long... all) {
        for (int i = 0; i < all.length; i++) {
            due("get(" + row + ", " + i + ")", x.get(row, i), all[i]);
        }
        due("get(" + row + ", " + all.length + ")", x.get(row, all.length), NO);
    }

    private static void copy() {
        SummedBases x = new SummedBases();
        x.row(0, 5);
        x.row(1, 3);
        for (int i = 0; i < 5; i++) {
            x.put(0, i, i + 1);
        }
        due("copy(0, 1, 1, 0, 2)", x.copy(0, 1, 1, 0, 2), 2);
        dueRow(x, 1, 2, 3, 0);
        due("copy(0, 2, 1, 0, 3)", x.copy(0, 2, 1, 0, 3), 3);
        dueRow(x, 1, 3, 4, 5);
        due("copy(0, 0, 0, 1, 4)", x.copy(0, 0, 0, 1, 4), 4);
        dueRow(x, 0, 1, 1, 2, 3, 4);
        due("copy(0, 1, 0, 0, 4)", x.copy(0, 1, 0, 0, 4), 4);
        dueRow(x, 0, 1, 2, 3, 4, 4);
        due("copy(0, 5, 1, 3, 0)", x.copy(0, 5, 1, 3, 0), 0);
        due("copy(0, 3, 1, 0, 3)", x.copy(0, 3, 1, 0, 3), -12);
        due("copy(0, 0, 1, 1, 3)", x.copy(0, 0, 1, 1, 3), -12);
        due("copy(0, -1, 1, 0, 1)", x.copy(0, -1, 1, 0, 1), -12);
        due("copy(0, 0, 1, -1, 1)", x.copy(0, 0, 1, -1, 1), -12);
        due("copy(0, 0, 1, 0, -1)", x.copy(0, 0, 1, 0, -1), -12);
        due("copy(0, 6, 1, 0, 0)", x.copy(0, 6, 1, 0, 0), -12);
        due("copy(0, 0, 1, 4, 0)", x.copy(0, 0, 1, 4, 0), -12);
        due("copy(0, MOST, 1, 0, MOST)", x.copy(0, MOST, 1, 0, MOST), -12);
        due("copy(0, 1, 1, 1, MOST)", x.copy(0, 1, 1, 1, MOST), -12);
        due("copy(0, 0, 1, 0, LEAST)", x.copy(0, 0, 1, 0, LEAST), -12);
        due("copy(2, 0, 0, 0, -1)", x.copy(2, 0, 0, 0, -1), -11);
        due("copy(0, 0, 2, 0, 1)", x.copy(0, 0, 2, 0, 1), -11);
        due("copy(-1, 0, 0, 0, 1)", x.copy(-1, 0, 0, 0, 1), -2);
        due("copy(3, 0, 0, 0, 1)", x.copy(3, 0, 0, 0, 1), -2);
        due("copy(0, 0, -1, 0, 1)", x.copy(0, 0, -1, 0, 1), -2);
        due("copy(2, 0, 3, 0, 1)", x.copy(2, 0, 3, 0, 1), -2);
        dueRow(x, 0, 1, 2, 3, 4, 4);
        dueRow(x, 1, 3, 4, 5);
    }

    private static void lay() {
        SummedBases x = mixed();
        x.row(0, 3);
        x.put(0, 0, 99);
        x.put(0, 2, 7);
        due("lay(0, 1, 0)", x.lay(0, 1, 0), 2);
        dueDigits(x, 0, 99, 0, 7);
        due("its base", x.told(0, 0), 1);
        x.digit(0, 5, 5);
        due("lay again", x.lay(0, 1, 0), 2);
        dueDigits(x, 0, 99, 0, 7);
        due("its deeds are gone", x.count(1), 0);
        x.put(0, 1, 100);
        x.digit(0, 5, 5);
        due("lay of 100", x.lay(0, 1, 0), -3);
        x.put(0, 1, -1);
        due("lay of -1", x.lay(0, 1, 0), -3);
        x.put(0, 1, 1L << 32);
        due("lay of 2^32", x.lay(0, 1, 0), -3);
        x.put(0, 1, NO);
        due("lay of NO", x.lay(0, 1, 0), -3);
        due("the reel stays", x.at(0, 5), 5);
        due("its deeds stay", x.count(1), 1);
        x.row(1, 10);
        x.put(1, 9, 3);
        due("lay(1, 2, 1) of HIGH", x.lay(1, 2, 1), 1);
        due("at(1, 9)", x.at(1, 9), 3);
        x.row(1, 11);
        due("lay(1, 2, 1) of more, all 0", x.lay(1, 2, 1), -3);
        due("lay(1, 1, 1)", x.lay(1, 1, 1), 0);
        x.row(1, 43);
        x.put(1, 42, 9);
        due("lay(1, 0, 1) of 43", x.lay(1, 0, 1), 1);
        x.row(1, 44);
        due("lay(1, 0, 1) of 44", x.lay(1, 0, 1), -3);
        x.row(1, 60);
        due("lay(1, 0, 1) of 60", x.lay(1, 0, 1), -3);
        x.row(1, 0);
        due("lay(5, 0, 1) of none", x.lay(5, 0, 1), 0);
        due("value(5)", x.value(5), 0);
        due("lay(-1, 0, 0)", x.lay(-1, 0, 0), -2);
        due("lay(6, 0, 0)", x.lay(6, 0, 0), -2);
        due("lay(0, -1, 0)", x.lay(0, -1, 0), -2);
        due("lay(0, 3, 0)", x.lay(0, 3, 0), -2);
        due("lay(0, 0, -1)", x.lay(0, 0, -1), -2);
        due("lay(0, 0, 3)", x.lay(0, 0, 3), -2);
        due("lay(0, 0, 2)", x.lay(0, 0, 2), -11);
    }

    private static void film() {
        SummedBases x = mixed();
        x.write(0, 2, 808);
        due("film(0, 1)", x.film(0, 1), 10);
        dueRow(x, 1, 0, 8, 8, 0, 0, 0, 0, 0, 0, 0);
        x.write(0, 0, 12);
        due("film(0, 1)", x.film(0, 1), 43);
        due("get(1, 0)", x.get(1, 0), 1);
        due("get(1, 1)", x.get(1, 1), 0);
        due("get(1, 42)", x.get(1, 42), 0);
        due("get(1, 43)", x.get(1, 43), NO);
        x.row(2, 60);
        x.put(2, 59, 1);
        x.write(0, 2, 4316254983L);
        due("film(0, 2)", x.film(0, 2), 10);
        due("get(2, 9)", x.get(2, 9), 9);
        due("get(2, 10)", x.get(2, 10), NO);
        due("film(1, 0)", x.film(1, 0), -11);
        due("count(3)", x.count(3), 2);
        due("film(-1, 0)", x.film(-1, 0), -2);
        due("film(6, 0)", x.film(6, 0), -2);
        due("film(0, -1)", x.film(0, -1), -2);
        due("film(0, 3)", x.film(0, 3), -2);
        due("film(1, 3), empty", x.film(1, 3), -2);
    }

    private static void image() {
        SummedBases x = mixed();
        due("image() of none", x.image(), 0);
        x.write(0, 0, 9);
        x.write(3, 2, 9);
        x.digit(0, 5, 4);
        due("image()", x.image(), 2);
        due("deeds stay", x.count(1), 1);
        due("back()", x.back(), 0);
        due("value(0)", x.value(0), 9);
        due("undo()", x.undo(), 2);
        due("the latest image", x.value(0), 9 + 4 * 13);
    }

    private static void undo() {
        SummedBases x = mixed();
        due("undo()", x.undo(), -3);
        x.write(0, 1, 25);
        x.write(1, 2, 99);
        x.row(0, 2);
        x.put(0, 0, 7);
        x.feed('5');
        x.image();
        x.base(1, 1, 1);
        x.base(0, 8, 98765432);
        x.write(2, 0, 77);
        x.digit(1, 0, 1);
        x.empty(1);
        x.put(0, 0, 8);
        x.row(1, 0);
        x.feed('6');
        x.write(3, 0, 4);
        x.digit(3, 0, 9);
        due("undo()", x.undo(), 2);
        due("deeds", x.count(1), 0);
        due("back()", x.back(), -3);
        dueDigits(x, 0, 0, 1, 0, 2);
        due("base of reel 0", x.told(0, 0), 1);
        dueDigits(x, 1, 8, 0, 1);
        due("reel 2", x.told(2, 0), -11);
        due("reel 3", x.told(3, 0), -11);
        due("kind of base 1", x.of(1, 0), 0);
        due("steps of base 1", x.of(1, 1), 3);
        due("high of base 1", x.of(1, 2), 28);
        due("W3 of base 1", x.worth(1, 3, 0), 11);
        due("step 2 of base 1", x.worth(1, 2, 1), 2);
        due("kind of base 0", x.of(0, 0), 2);
        due("top of base 0", x.top(0), 1134903169L);
        due("W42 of base 0", x.worth(0, 42, 0), 701408733L);
        due("the tape stays", x.count(2), 2);
        due("the rows stay", x.get(0, 0), 8);
        due("the rows stay", x.count(3), 2);
        due("a digit of reel 1", x.digit(1, 0, 50), 8);
        due("back of it", x.back(), 0);
        x.empty(0);
        due("undo() again", x.undo(), 2);
        dueDigits(x, 0, 0, 1, 0, 2);
        x.base(1, 1, 5);
        due("base told after undo empties its reels", x.told(0, 0), -11);
    }

    private static void count() {
        SummedBases x = new SummedBases();
        x.write(0, 0, 1);
        x.write(1, 0, 0);
        x.write(5, 1, 1);
        x.digit(5, 0, 1);
        x.digit(5, 0, 1);
        x.feed('.');
        x.row(0, 1);
        x.row(2, 0);
        due("count(0)", x.count(0), 3);
        due("count(1)", x.count(1), 2);
        due("count(2)", x.count(2), 1);
        due("count(3)", x.count(3), 2);
        due("count(-1)", x.count(-1), -2);
        due("count(4)", x.count(4), -2);
    }

    private static void runPromise(int n) {
        promise = n;
        switch (n) {
            case 1 -> newObject();
            case 2 -> base();
            case 3 -> of();
            case 4 -> worth();
            case 5 -> top();
            case 6 -> taken();
            case 7 -> write();
            case 8 -> empty();
            case 9 -> told();
            case 10 -> at();
            case 11 -> value();
            case 12 -> digit();
            case 13 -> borrow();
            case 14 -> carry();
            case 15 -> settle();
            case 16 -> right();
            case 17 -> shift();
            case 18 -> on();
            case 19 -> soon();
            case 20 -> sum();
            case 21 -> like();
            case 22 -> ways();
            case 23 -> crossed();
            case 24 -> print();
            case 25 -> feed();
            case 26 -> read();
            case 27 -> back();
            case 28 -> row();
            case 29 -> put();
            case 30 -> get();
            case 31 -> copy();
            case 32 -> lay();
            case 33 -> film();
            case 34 -> image();
            case 35 -> undo();
            default -> count();
        }
    }

    public static void main(String[] args) {
        for (int n = 1; n <= 36; n++) {
            runPromise(n);
        }
        System.out.println(wrong == 0 ? "all 36 promises are kept" : wrong + " answers are not as due");
        if (wrong != 0) {
            System.exit(1);
        }
    }
}
