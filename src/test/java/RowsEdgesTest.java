import java.util.ArrayList;
import java.util.List;
import java.util.Random;

/** Boundary cases of ROWS, TOKENS and RULES: what Terms 1 and promises 1 to 6 say of them, a sentence a method. */
public final class RowsEdgesTest {
    public static void main(String[] args) {
        rowsAreEight();
        rowsAreMissingAtFirst();
        lanesAreThree();
        itemsAreSixtyAtMost();
        fewerThanNone();
        itemsAreZeroAtFirst();
        rowInPlaceOfWhatIsThere();
        lowestBitsOfALane();
        wrappedItemsAreTokens();
        placesOfARow();
        copyOfLanesInTime();
        copyBeyondAnEnd();
        copyOfWholeRows();
        copyOfEmptyRows();
        copyAsTheyWereAhead();
        copyOfBits();
        dropTellsItems();
        lowestThreeBits();
        tokensAreNumbers();
        eachListIsClosed();
        emptyAnswer();
        datesAreTen();
        idsAreTen();
        idsByFirstComings();
        listsOfFewParts();
        partsInOrder();
        partsAlike();
        partsOfInnerLists();
        datesInOrder();
        rulesInOrder();
        foldedStays();
        foldHasNotSoMany();
        foldRefusedInTime();
        foldChangesNoRow();
        Due.end("RowsEdgesTest");
    }

    // "ROWS 0 .. 7"
    private static void rowsAreEight() {
        GoldenKeeper x = new GoldenKeeper(0);
        Due.ends("row: ROW", 0, 7, r -> x.row(r, 2, 1), r -> 1);
        Due.is("count of all ROWS", x.count(0), 8);
        Due.ends("set: ROW", 0, 7, r -> x.set(r, 0, 40 + r), r -> 40 + r);
        Due.ends("fold: ROW", 0, 7, r -> x.fold(r, 0), r -> 40 + r);
        Due.ends("keep: ROW", 0, 7, r -> x.keep(0, 0, r), r -> 1);
        Due.ends("give: ROW", 0, 7, r -> x.give(0, 0, r), r -> r == 7 ? 2 : 3);
        Due.ends("copy: a", 0, 7, r -> x.copy(r, 0, 3, 0, 1), r -> 1);
        Due.ends("copy: b", 0, 7, r -> x.copy(3, 0, r, 0, 1), r -> 1);
        Due.ends("drop: ROW", 0, 7, r -> x.drop(r), r -> 1);
        Due.is("count of none", x.count(0), 0);
    }

    // "are missing (at first)"; "NULL (a ROW that is missing)"
    private static void rowsAreMissingAtFirst() {
        for (int row = 0; row < 8; row++) {
            GoldenKeeper x = new GoldenKeeper(7);
            int there = (row + 1) % 8;
            x.row(there, 2, 1);
            Due.is("set", x.set(row, 0, 0), Due.NULL);
            Due.is("copy from", x.copy(row, 0, there, 0, 1), Due.NULL);
            Due.is("copy to", x.copy(there, 0, row, 0, 1), Due.NULL);
            Due.is("copy none", x.copy(row, 0, row, 0, 0), Due.NULL);
            Due.is("drop", x.drop(row), Due.NULL);
            Due.is("fold", x.fold(row, 0), Due.NULL);
            Due.is("keep", x.keep(0, 0, row), Due.NULL);
            Due.is("give", x.give(0, 0, row), Due.NULL);
            Due.is("count", x.count(0), 1);
        }
    }

    // "a LANE (0 bytes, 1 shorts, 2 ints)"; "BAD: ROW, LANE, n above 60"
    private static void lanesAreThree() {
        GoldenKeeper x = new GoldenKeeper(0);
        Due.ends("row: LANE", 0, 2, lane -> x.row(lane < 0 || lane > 2 ? 0 : lane, lane, 3), lane -> 3);
        for (int a = 0; a < 3; a++) {
            for (int b = 0; b < 3; b++) {
                Due.is("LANES " + a + " " + b, x.copy(a, 0, b, 0, 1), a == b ? 1 : Due.STORE);
            }
        }
        Due.is("a LANE that is none, fewer than none", x.row(0, 3, -1), Due.BAD);
        Due.is("a ROW that is none, fewer than none", x.row(8, 0, -1), Due.BAD);
    }

    // "0 to 60 ITEMS"; "BAD: .. n above 60"
    private static void itemsAreSixtyAtMost() {
        for (int lane = 0; lane < 3; lane++) {
            GoldenKeeper x = new GoldenKeeper(0);
            for (int n = 0; n <= 60; n++) {
                Due.is("row of " + n, x.row(n % 8, lane, n), n);
                Due.is("drop of " + n, x.drop(n % 8), n);
            }
            for (int n : Due.of(61, 62, 1000, Integer.MAX_VALUE)) {
                Due.is("row of " + n, x.row(0, lane, n), Due.BAD);
            }
            Due.is("no ROW of 61", x.count(0), 0);
        }
    }

    // "SIZE (fewer than none)"
    private static void fewerThanNone() {
        for (int n : Due.of(-1, -2, -60, -61, Integer.MIN_VALUE)) {
            GoldenKeeper x = new GoldenKeeper(0);
            Due.is("of a missing ROW", x.row(0, 2, n), Due.SIZE);
            Due.is("status", x.status(), 4);
            Due.is("it is still missing", x.count(0), 0);
            Due.fill(x, 0, 7, 8);
            Due.is("of a ROW", x.row(0, 0, n), Due.SIZE);
            Due.is("its ITEMS stay", x.fold(0, 1), 8);
            Due.is("its LANE stays", x.set(0, 0, 70000), 70000);
            Due.is("its length stays", x.drop(0), 2);
        }
    }

    // "0 to 60 ITEMS, 0 at first"
    private static void itemsAreZeroAtFirst() {
        GoldenKeeper x = new GoldenKeeper(0);
        Due.fill(x, 0, Due.upTo(1, 60));
        x.row(0, 2, 3);
        x.row(0, 2, 60);
        for (int i = 0; i < 60; i++) {
            Due.is("ITEM " + i, x.fold(0, i), 0);
        }
        x.set(0, 59, 9);
        x.drop(0);
        x.row(0, 2, 60);
        Due.is("after a drop", x.fold(0, 59), 0);
    }

    // "A ROW of a LANE with n ITEMS, in place of what is there: n"
    private static void rowInPlaceOfWhatIsThere() {
        GoldenKeeper x = new GoldenKeeper(0);
        x.row(4, 2, 60);
        Due.is("fewer, of another LANE", x.row(4, 0, 2), 2);
        Due.is("its LANE", x.set(4, 1, 256), 0);
        Due.is("its end", x.set(4, 2, 0), Due.PLACE);
        Due.is("none at all", x.row(4, 1, 0), 0);
        Due.is("no place", x.set(4, 0, 0), Due.PLACE);
        Due.is("one ROW still", x.count(0), 1);
        Due.is("more", x.row(4, 1, 60), 60);
        Due.is("its last", x.set(4, 59, 65536 + 3), 3);
    }

    // "ITEM i becomes v, its lowest bits, as many as the LANE has: what it is then"
    private static void lowestBitsOfALane() {
        GoldenKeeper x = new GoldenKeeper(0);
        x.row(0, 0, 1);
        x.row(1, 1, 1);
        x.row(2, 2, 1);
        int[] all = {0, 1, -1, 127, 128, -128, -129, 255, 256, 257, -255, -256, -257, 32767, 32768, -32768, -32769,
            65535, 65536, 65537, -65535, -65536, 0x7fffff80, 0x7fff8000, Integer.MAX_VALUE, Integer.MIN_VALUE};
        for (int v : all) {
            Due.is("byte of " + v, x.set(0, 0, v), Math.floorMod(v + 128L, 256) - 128);
            Due.is("short of " + v, x.set(1, 0, v), Math.floorMod(v + 32768L, 65536) - 32768);
            Due.is("int of " + v, x.set(2, 0, v), v);
        }
        Due.is("127 is the last byte", x.set(0, 0, 127), 127);
        Due.is("128 is the first that wraps", x.set(0, 0, 128), -128);
        Due.is("32767 is the last short", x.set(1, 0, 32767), 32767);
        Due.is("32768 is the first that wraps", x.set(1, 0, 32768), -32768);
    }

    // what an ITEM has become, and not what was told, is the TOKEN
    private static void wrappedItemsAreTokens() {
        GoldenKeeper x = new GoldenKeeper(0);
        x.row(0, 0, 2);
        x.set(0, 0, 256 + 120);
        x.set(0, 1, 121 - 512);
        Due.is("bytes: a LIST", x.keep(0, 0, 0), 2);
        Due.tokens("bytes", x, 0, 0, 1, 120, 121);
        x.row(1, 1, 2);
        x.set(1, 0, 65536 + 120);
        x.set(1, 1, 121 - 65536);
        Due.is("shorts: a LIST", x.keep(1, 0, 1), 2);
        Due.tokens("shorts", x, 1, 0, 1, 120, 121);
        x.row(2, 2, 1);
        x.set(2, 0, 65536 + 5);
        Due.is("ints: no TOKEN", x.keep(2, 0, 2), Due.STATE);
        x.set(0, 0, 128 + 5);
        Due.is("bytes: below 0", x.fold(0, 0), Due.STATE);
    }

    // "PLACE (no such place of a ROW)"
    private static void placesOfARow() {
        for (int n : Due.of(0, 1, 59, 60)) {
            GoldenKeeper x = new GoldenKeeper(0);
            x.row(7, 1, n);
            for (int i : Due.of(-1, n, n + 1, Integer.MIN_VALUE, Integer.MAX_VALUE)) {
                Due.is("place " + i + " of " + n, x.set(7, i, 1), Due.PLACE);
                Due.is("status", x.status(), 2);
            }
            for (int i = 0; i < n; i++) {
                Due.is("place " + i + " of " + n, x.set(7, i, i), i);
            }
        }
    }

    // "NULL; STORE; PLACE": of several the first in time
    private static void copyOfLanesInTime() {
        GoldenKeeper x = new GoldenKeeper(0);
        x.row(0, 0, 2);
        x.row(1, 1, 2);
        Due.is("BAD a ahead of NULL", x.copy(-1, 0, 5, 0, 0), Due.BAD);
        Due.is("BAD b ahead of NULL", x.copy(5, 0, 8, 0, 0), Due.BAD);
        Due.is("NULL ahead of PLACE", x.copy(0, -1, 5, 9, -1), Due.NULL);
        Due.is("NULL ahead of PLACE", x.copy(5, -1, 0, 9, -1), Due.NULL);
        Due.is("STORE ahead of PLACE", x.copy(0, -1, 1, 0, 1), Due.STORE);
        Due.is("STORE ahead of PLACE", x.copy(0, 0, 1, 9, 1), Due.STORE);
        Due.is("STORE ahead of PLACE", x.copy(1, 0, 0, 0, -1), Due.STORE);
        Due.is("STORE, if none is to come", x.copy(0, 0, 1, 0, 0), Due.STORE);
        Due.is("status", x.status(), 5);
        x.row(2, 0, 0);
        x.row(3, 1, 0);
        Due.is("STORE of empty ROWS", x.copy(2, 0, 3, 0, 0), Due.STORE);
    }

    // "PLACE (i, j, n below 0, or beyond an end)"
    private static void copyBeyondAnEnd() {
        int least = Integer.MIN_VALUE;
        int most = Integer.MAX_VALUE;
        int[][] beyond = {{-1, 0, 1}, {0, -1, 1}, {0, 0, -1}, {-1, 0, 0}, {0, -1, 0}, {5, 0, 1}, {4, 0, 2}, {0, 3, 1},
            {0, 2, 2}, {0, 0, 4}, {6, 0, 0}, {0, 4, 0}, {most, 0, 1}, {0, most, 1}, {1, 1, most}, {most, most, most},
            {least, 0, 1}, {0, least, 1}, {0, 0, least}, {least, least, least}, {most, 0, least}, {1, 0, most}, {0, 1, most}};
        for (int[] b : beyond) {
            GoldenKeeper x = new GoldenKeeper(0);
            Due.fill(x, 0, 1, 2, 3, 4, 5);
            Due.fill(x, 1, 6, 7, 8);
            Due.is("copy " + b[0] + " " + b[1] + " " + b[2], x.copy(0, b[0], 1, b[1], b[2]), Due.PLACE);
            Due.is("status", x.status(), 2);
            for (int i = 0; i < 3; i++) {
                Due.is("no ITEM has come", x.fold(1, i), 6 + i);
            }
        }
        GoldenKeeper x = new GoldenKeeper(0);
        Due.fill(x, 0, 1, 2, 3, 4, 5);
        Due.fill(x, 1, 6, 7, 8);
        Due.is("up to both ends", x.copy(0, 2, 1, 0, 3), 3);
        Due.is("the last to the last", x.copy(0, 0, 1, 2, 1), 1);
        Due.is("none at both ends", x.copy(0, 5, 1, 3, 0), 0);
        Due.is("has come", x.fold(1, 0), 3);
        Due.is("has come", x.fold(1, 1), 4);
        Due.is("has come", x.fold(1, 2), 1);
    }

    private static void copyOfWholeRows() {
        GoldenKeeper x = new GoldenKeeper(0);
        Due.fill(x, 0, Due.upTo(1, 60));
        x.row(7, 2, 60);
        Due.is("sixty", x.copy(0, 0, 7, 0, 60), 60);
        Due.is("sixty-one", x.copy(0, 0, 7, 0, 61), Due.PLACE);
        for (int i = 0; i < 60; i++) {
            Due.is("ITEM " + i, x.fold(7, i), i + 1);
        }
    }

    private static void copyOfEmptyRows() {
        GoldenKeeper x = new GoldenKeeper(0);
        x.row(0, 1, 0);
        x.row(1, 1, 0);
        Due.is("none", x.copy(0, 0, 1, 0, 0), 0);
        Due.is("none onto itself", x.copy(0, 0, 0, 0, 0), 0);
        Due.is("one", x.copy(0, 0, 1, 0, 1), Due.PLACE);
        Due.is("beyond", x.copy(0, 1, 1, 0, 0), Due.PLACE);
        Due.is("beyond", x.copy(0, 0, 1, 1, 0), Due.PLACE);
    }

    // "n ITEMS of a from i on come to b from j on, as they were ahead"
    private static void copyAsTheyWereAhead() {
        for (int i = 0; i <= 6; i++) {
            for (int j = 0; j <= 6; j++) {
                for (int n = 0; n <= 6 - Math.max(i, j); n++) {
                    GoldenKeeper x = new GoldenKeeper(0);
                    Due.fill(x, 2, 1, 2, 3, 4, 5, 6);
                    Due.is("copy", x.copy(2, i, 2, j, n), n);
                    for (int k = 0; k < 6; k++) {
                        int due = k >= j && k < j + n ? k - j + i + 1 : k + 1;
                        Due.is("from " + i + " to " + j + ", " + n + ": " + k, x.fold(2, k), due);
                    }
                }
            }
        }
    }

    private static void copyOfBits() {
        GoldenKeeper x = new GoldenKeeper(0);
        x.row(0, 1, 1);
        x.row(1, 1, 1);
        x.set(0, 0, 256 + 5);
        x.copy(0, 0, 1, 0, 1);
        Due.is("shorts come whole: no TOKEN", x.fold(1, 0), Due.STATE);
        x.set(0, 0, 5);
        Due.is("an ITEM that has come is its own", x.fold(1, 0), Due.STATE);
    }

    // "A ROW is missing from now on: how many ITEMS it had"
    private static void dropTellsItems() {
        GoldenKeeper x = new GoldenKeeper(0);
        x.row(0, 0, 0);
        x.row(1, 2, 60);
        Due.is("an empty ROW", x.drop(0), 0);
        Due.is("status", x.status(), 0);
        Due.is("is missing then", x.drop(0), Due.NULL);
        Due.is("a full ROW", x.drop(1), 60);
        Due.is("is missing then", x.fold(1, 0), Due.NULL);
        Due.is("none is left", x.count(0), 0);
        Due.is("and made again", x.row(0, 0, 1), 1);
        Due.is("one", x.count(0), 1);
    }

    // "RULES of some bits (the lowest three)"
    private static void lowestThreeBits() {
        int[] plain = {120, 119, 109, 3, 118, 119, 121};
        int[][] due = {{120, 119, 109, 3, 118, 119, 121}, {120, 119, 100, 3, 118, 119, 121},
            {120, 110, 109, 3, 111, 110, 121}, {120, 110, 100, 3, 111, 110, 121},
            {120, 3, 109, 119, 118, 119, 121}, {120, 3, 100, 119, 118, 119, 121},
            {120, 3, 109, 110, 111, 110, 121}, {120, 3, 100, 110, 111, 110, 121}};
        for (int rules = 0; rules < 8; rules++) {
            for (int more : Due.of(0, 8, 16, 1 << 30, Integer.MIN_VALUE, -8, Integer.MAX_VALUE - 7)) {
                Due.is("count 6 of " + (rules | more), new GoldenKeeper(rules | more).count(6), rules);
                Due.folds("rules " + (rules | more), rules | more, plain, due[rules]);
            }
        }
    }

    // "TOKENS are numbers: 0 to 99 a WORD, .. 121 closes it"
    private static void tokensAreNumbers() {
        for (int t = 0; t < 120; t++) {
            isAnswer(true, t);
        }
        for (int t : Due.of(-1, -2, 122, 123, 127, -128, 1000, Integer.MIN_VALUE, Integer.MAX_VALUE)) {
            isAnswer(false, t);
            isAnswer(false, 5, t);
            isAnswer(false, 120, t, 121);
        }
    }

    // "each LIST that is opened is closed, and none else"
    private static void eachListIsClosed() {
        isAnswer(false, 120);
        isAnswer(false, 121);
        isAnswer(true, 120, 121);
        isAnswer(false, 121, 120);
        isAnswer(false, 120, 121, 120);
        isAnswer(false, 120, 121, 121);
        isAnswer(false, 120, 121, 121, 120);
        isAnswer(true, 120, 120, 121, 121);
        isAnswer(true, 120, 121, 120, 121);
        int[] deep = Due.join(new int[30], new int[30]);
        java.util.Arrays.fill(deep, 0, 30, 120);
        java.util.Arrays.fill(deep, 30, 60, 121);
        isAnswer(true, deep);
        deep[59] = 120;
        isAnswer(false, deep);
        deep[59] = 0;
        isAnswer(false, deep);
        deep[0] = 0;
        isAnswer(true, deep);
        int[] flat = new int[60];
        for (int i = 0; i < 60; i++) {
            flat[i] = 120 + i % 2;
        }
        isAnswer(true, flat);
    }

    private static void isAnswer(boolean due, int... tokens) {
        GoldenKeeper x = new GoldenKeeper(7);
        Due.fill(x, 0, tokens);
        String what = java.util.Arrays.toString(tokens);
        Due.is("fold of " + what, x.fold(0, tokens.length), due ? Due.NONE : Due.STATE);
        Due.is("keep of " + what, x.keep(0, 0, 0), due ? tokens.length : Due.STATE);
        Due.is("give of " + what, x.give(1, 0, 0), due ? 1 : Due.STATE);
        Due.is("KEPT of " + what, x.count(1), due ? 1 : 0);
        Due.is("given of " + what, x.count(2), due ? 1 : 0);
    }

    // a ROW without ITEMS is an ANSWER without TOKENS
    private static void emptyAnswer() {
        for (int lane = 0; lane < 3; lane++) {
            GoldenKeeper x = new GoldenKeeper(7);
            x.row(0, lane, 0);
            Due.is("fold", x.fold(0, 0), Due.NONE);
            Due.is("status", x.status(), 0);
            Due.is("keep", x.keep(0, 0, 0), 0);
            Due.is("it is KEPT", x.count(1), 1);
            Due.is("give", x.give(0, 0, 0), 2);
            Due.is("it is given", x.count(2), 1);
        }
    }

    // "100 to 109 a DATE"; "1: each DATE becomes 100"
    private static void datesAreTen() {
        for (int t = 0; t < 120; t++) {
            Due.folds("TOKEN " + t, 1, Due.of(t), t >= 100 && t <= 109 ? 100 : t);
        }
        Due.folds("in LISTS, too", 1, Due.of(120, 109, 120, 101, 121, 121), 120, 100, 120, 100, 121, 121);
    }

    // "110 to 119 an ID"; "2: IDS become 110, 111, .."
    private static void idsAreTen() {
        for (int t = 0; t < 120; t++) {
            Due.folds("TOKEN " + t, 2, Due.of(t), t >= 110 ? 110 : t);
        }
        Due.folds("in LISTS, too", 2, Due.of(120, 119, 120, 111, 121, 121, 119), 120, 110, 120, 111, 121, 121, 110);
    }

    // "by their first comings (the same ones the same)"
    private static void idsByFirstComings() {
        int[] down = new int[60];
        int[] due = new int[60];
        for (int i = 0; i < 60; i++) {
            down[i] = 119 - i % 10;
            due[i] = 110 + i % 10;
        }
        Due.folds("all ten, six times", 2, down, due);
        Due.folds("the same one", 2, Due.of(119, 119, 119), 110, 110, 110);
        Due.folds("back and forth", 2, Due.of(111, 110, 111, 112, 110), 110, 111, 110, 112, 111);
        GoldenKeeper x = new GoldenKeeper(2);
        Due.fill(x, 0, 117);
        x.fold(0, 0);
        Due.fill(x, 0, 118, 117);
        Due.is("each ANSWER by itself", x.fold(0, 0), 110);
        Due.is("each ANSWER by itself", x.fold(0, 1), 111);
    }

    private static void listsOfFewParts() {
        Due.folds("an empty LIST", 4, Due.of(120, 121), 120, 121);
        Due.folds("one PART", 4, Due.of(120, 9, 121), 120, 9, 121);
        Due.folds("an empty LIST in one", 4, Due.of(120, 120, 121, 121), 120, 120, 121, 121);
        Due.folds("no LIST", 4, Due.of(9, 8, 7), 9, 8, 7);
        Due.folds("LISTS right in the ANSWER stay", 4, Due.of(120, 9, 121, 120, 1, 121, 0), 120, 9, 121, 120, 1, 121, 0);
        Due.folds("nothing", 4, Due.of());
    }

    // "by their TOKENS, place by place, the lesser first" (a PART is never the beginning of an unlike one: it is one
    // TOKEN, or a LIST, which ends where it is closed)
    private static void partsInOrder() {
        Due.folds("ends of all", 4, Due.of(120, 120, 121, 110, 109, 100, 99, 0, 121), 120, 0, 99, 100, 109, 110, 120, 121, 121);
        Due.folds("the first place", 4, Due.of(120, 120, 2, 121, 120, 1, 5, 5, 121, 121),
            120, 120, 1, 5, 5, 121, 120, 2, 121, 121);
        Due.folds("the last place", 4, Due.of(120, 120, 1, 2, 4, 121, 120, 1, 2, 3, 121, 121),
            120, 120, 1, 2, 3, 121, 120, 1, 2, 4, 121, 121);
        Due.folds("121 is the greatest", 4, Due.of(120, 120, 121, 120, 120, 121, 121, 120, 119, 121, 121),
            120, 120, 119, 121, 120, 120, 121, 121, 120, 121, 121);
        Due.folds("the shorter LIST behind", 4, Due.of(120, 120, 1, 121, 120, 1, 1, 121, 121),
            120, 120, 1, 1, 121, 120, 1, 121, 121);
    }

    // "all IDS being taken for 110"; "of those alike so the one that stood first"
    private static void partsAlike() {
        Due.folds("IDS", 4, Due.of(120, 119, 110, 118, 111, 121), 120, 119, 110, 118, 111, 121);
        Due.folds("whatever stood behind them", 4, Due.of(120, 119, 120, 121, 110, 3, 121), 120, 3, 119, 110, 120, 121, 121);
        Due.folds("behind 109, ahead of 120", 4, Due.of(120, 120, 121, 119, 109, 110, 121), 120, 109, 119, 110, 120, 121, 121);
        Due.folds("LISTS of IDS", 4, Due.of(120, 120, 119, 5, 121, 120, 110, 5, 121, 121),
            120, 120, 5, 119, 121, 120, 5, 110, 121, 121);
        Due.folds("a place behind the IDS", 4, Due.of(120, 120, 110, 120, 2, 121, 121, 120, 119, 120, 1, 121, 121, 121),
            120, 120, 119, 120, 1, 121, 121, 120, 110, 120, 2, 121, 121, 121);
    }

    // "the inner LISTS ahead of the outer ones"
    private static void partsOfInnerLists() {
        Due.folds("two deep", 4, Due.of(120, 120, 3, 2, 121, 120, 9, 1, 121, 121), 120, 120, 1, 9, 121, 120, 2, 3, 121, 121);
        Due.folds("three deep", 4, Due.of(120, 120, 120, 8, 4, 121, 121, 120, 120, 9, 3, 121, 121, 121),
            120, 120, 120, 3, 9, 121, 121, 120, 120, 4, 8, 121, 121, 121);
    }

    // "(DATES as they are by rule 1)"
    private static void datesInOrder() {
        int[] plain = {120, 120, 109, 120, 1, 121, 121, 120, 101, 120, 2, 121, 121, 121};
        Due.folds("as they are", 4, plain, 120, 120, 101, 120, 2, 121, 121, 120, 109, 120, 1, 121, 121, 121);
        Due.folds("all 100", 5, plain, 120, 120, 100, 120, 1, 121, 121, 120, 100, 120, 2, 121, 121, 121);
        Due.folds("alone", 4, Due.of(120, 109, 101, 100, 121), 120, 100, 101, 109, 121);
    }

    // "FOLDED: by 1, then 4, then 2, as far as they are set"
    private static void rulesInOrder() {
        int[] plain = {120, 117, 3, 120, 109, 116, 121, 120, 101, 115, 121, 121, 115};
        Due.folds("4, then 2", 6, plain, 120, 3, 110, 120, 101, 111, 121, 120, 109, 112, 121, 121, 111);
        Due.folds("1, then 4, then 2", 7, plain, 120, 3, 110, 120, 100, 111, 121, 120, 100, 112, 121, 121, 112);
        Due.folds("1, then 2", 3, plain, 120, 110, 3, 120, 100, 111, 121, 120, 100, 112, 121, 121, 112);
    }

    // "(So what is FOLDED stays, when it is folded again.)"
    private static void foldedStays() {
        Random random = new Random(7);
        for (int run = 0; run < 800; run++) {
            GoldenKeeper x = new GoldenKeeper(run);
            List<Integer> tokens = new ArrayList<>();
            addTokens(random, tokens, run % 61);
            Due.fill(x, 0, tokens.stream().mapToInt(t -> t).toArray());
            int[] folded = new int[tokens.size()];
            for (int i = 0; i < folded.length; i++) {
                folded[i] = x.fold(0, i);
            }
            Due.fill(x, 1, folded);
            for (int i = 0; i < folded.length; i++) {
                Due.is("folded again, of " + tokens, x.fold(1, i), folded[i]);
            }
        }
    }

    private static void addTokens(Random random, List<Integer> tokens, int n) {
        for (int left = n; left > 0;) {
            int inner = random.nextInt(left);
            if (inner < left - 1 && random.nextInt(3) == 0) {
                tokens.add(120);
                addTokens(random, tokens, inner);
                tokens.add(121);
                left -= inner + 2;
            } else {
                tokens.add(random.nextInt(3) == 0 ? random.nextInt(3) : 100 + random.nextInt(20));
                left--;
            }
        }
    }

    // "NONE: it has not so many"
    private static void foldHasNotSoMany() {
        for (int n : Due.of(0, 1, 60)) {
            GoldenKeeper x = new GoldenKeeper(7);
            x.row(0, 0, n);
            if (n > 0) {
                Due.is("the last of " + n, x.fold(0, n - 1), 0);
            }
            for (int i : Due.of(n, n + 1, 61, -1, Integer.MIN_VALUE, Integer.MAX_VALUE)) {
                if (i >= n || i < 0) {
                    Due.is("ITEM " + i + " of " + n, x.fold(0, i), Due.NONE);
                }
            }
        }
    }

    // "BAD: ROW; NULL; then STATE: it is no ANSWER"
    private static void foldRefusedInTime() {
        GoldenKeeper x = new GoldenKeeper(7);
        Due.is("NULL, whatever the place", x.fold(0, -1), Due.NULL);
        Due.is("status", x.status(), 1);
        Due.fill(x, 0, 121);
        Due.is("STATE ahead of NONE", x.fold(0, 1), Due.STATE);
        Due.is("STATE ahead of NONE", x.fold(0, -1), Due.STATE);
        Due.is("STATE", x.fold(0, 0), Due.STATE);
        x.drop(1);
        Due.is("STATE leaves status", x.fold(0, 0), Due.STATE);
        Due.is("status", x.status(), 1);
    }

    // "(no ROW changes)"
    private static void foldChangesNoRow() {
        GoldenKeeper x = new GoldenKeeper(7);
        int[] plain = {120, 119, 109, 3, 121};
        Due.fill(x, 0, plain);
        for (int i = 0; i < 5; i++) {
            x.fold(0, i);
        }
        x.keep(0, 0, 0);
        Due.tokens("plain", x, 0, 0, 1, plain);
    }

    private RowsEdgesTest() { }
}
