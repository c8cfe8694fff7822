import java.util.function.IntUnaryOperator;

/** What the tests share: rows filled in one call, and answers held against those that are due. */
final class Due {
    static final int NONE = -1000000, BAD = -1000001, STATE = -1000002, FULL = -1000003;
    static final int NULL = -1000011, PLACE = -1000012, KIND = -1000013, SIZE = -1000014, STORE = -1000015;

    private static int wrong = 0;

    static void is(String what, int got, int due) {
        if (got != due) {
            wrong++;
            System.out.println(what + " answered " + got + ", due is " + due);
        }
    }

    static void isTrue(String what, boolean held) {
        is(what, held ? 1 : 0, 1);
    }

    /** A number that goes from first to last: each of these has its answer, and those beyond both ends are BAD. */
    static void ends(String what, int first, int last, IntUnaryOperator call, IntUnaryOperator due) {
        for (int v = first; v <= last; v++) {
            is(what + " " + v, call.applyAsInt(v), due.applyAsInt(v));
        }
        for (int v : of(first - 1, last + 1, Integer.MIN_VALUE, Integer.MAX_VALUE)) {
            is(what + " " + v, call.applyAsInt(v), BAD);
        }
    }

    static void fill(GoldenKeeper x, int row, int... tokens) {
        is("row of " + tokens.length, x.row(row, 2, tokens.length), tokens.length);
        for (int i = 0; i < tokens.length; i++) {
            x.set(row, i, tokens[i]);
        }
    }

    static void keep(GoldenKeeper x, int name, int platform, int... tokens) {
        fill(x, 7, tokens);
        is("keep " + name + " " + platform, x.keep(name, platform, 7), tokens.length);
    }

    static int give(GoldenKeeper x, int name, int platform, int... tokens) {
        fill(x, 7, tokens);
        return x.give(name, platform, 7);
    }

    /** All of what is KEPT (side 0, 1) or given (2, 3), and that it ends there. */
    static void tokens(String what, GoldenKeeper x, int name, int platform, int side, int... due) {
        for (int i = 0; i < due.length; i++) {
            is(what + ", token " + i, x.token(name, platform, side, i), due[i]);
        }
        is(what + ", its end", x.token(name, platform, side, due.length), NONE);
    }

    static void folds(String what, int rules, int[] plain, int... due) {
        GoldenKeeper x = new GoldenKeeper(rules);
        fill(x, 0, plain);
        for (int i = 0; i < due.length; i++) {
            is(what + ", item " + i, x.fold(0, i), due[i]);
        }
        is(what + ", its end", x.fold(0, due.length), NONE);
        fill(x, 1, due);
        for (int i = 0; i < due.length; i++) {
            is(what + ", folded again, item " + i, x.fold(1, i), due[i]);
        }
    }

    /** A CHANGE: where it begins in the KEPT one, how many go, where in the given one, how many come. */
    static void change(GoldenKeeper x, int name, int platform, int i, int... due) {
        for (int what = 0; what < due.length; what++) {
            is("change " + name + " " + platform + " " + i + " " + what, x.change(name, platform, i, what), due[what]);
        }
    }

    static void entry(GoldenKeeper x, int entry, int... due) {
        for (int what = 0; what < due.length; what++) {
            is("entry " + entry + " " + what, x.entry(entry, what), due[what]);
        }
    }

    static void trace(String what, GoldenKeeper x, int... due) {
        for (int i = 0; i < due.length; i++) {
            is(what + ", trace " + i, x.trace(i), due[i]);
        }
        is(what + ", end of the trace", x.trace(due.length), NONE);
    }

    /** The numbers from first to last. */
    static int[] upTo(int first, int last) {
        int[] all = new int[last - first + 1];
        for (int i = 0; i < all.length; i++) {
            all[i] = first + i;
        }
        return all;
    }

    /**
     * The WORDS 0 to 38, and every other place between them and at both ends (from the first one that is told on) a
     * TOKEN: a row of first 0 and one of first 1 differ by forty CHANGES, and more there can't be.
     */
    static int[] everyOther(int token, int first) {
        int[] all = new int[59];
        int n = 0;
        for (int place = 0; place < 40; place++) {
            if (place % 2 == first) {
                all[n++] = token;
            }
            if (place < 39) {
                all[n++] = place;
            }
        }
        return all;
    }

    /** All 36 NAMES and PLATFORMS with 1 KEPT and 2 given, which are in ROWS 0 and 1. */
    static GoldenKeeper allChanged() {
        GoldenKeeper x = new GoldenKeeper(0);
        fill(x, 0, 1);
        fill(x, 1, 2);
        for (int at = 0; at < 36; at++) {
            is("keep of all", x.keep(at / 3, at % 3, 0), 1);
            is("give of all", x.give(at / 3, at % 3, 1), 3);
        }
        return x;
    }

    /** All rows together, one behind the other. */
    static int[] join(int[]... rows) {
        return java.util.Arrays.stream(rows).flatMapToInt(java.util.Arrays::stream).toArray();
    }

    static int[] of(int... tokens) {
        return tokens;
    }

    static void end(String test) {
        System.out.println(test + ": " + (wrong == 0 ? "all answers are as due" : wrong + " answers are not as due"));
        if (wrong != 0) {
            System.exit(1);
        }
    }

    private Due() { }
}
