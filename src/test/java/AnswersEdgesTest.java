import java.util.ArrayList;
import java.util.List;

/** Boundary cases of answers: what Terms 2 and promises 7 to 16 say of them, a sentence a method. */
public final class AnswersEdgesTest {
    /** A call for a NAME and a PLATFORM. */
    private interface Call {
        int on(GoldenKeeper x, int name, int platform);
    }

    // Some of these would fall among the 36 if the one number could make up for the other, or by a wrap-around.
    private static final int[][] NO_PLACES = {{-1, 0}, {12, 0}, {0, -1}, {0, 3}, {11, 3}, {12, 2}, {-1, 3}, {1, -1},
        {-1, 5}, {12, -1}, {Integer.MIN_VALUE, 0}, {Integer.MAX_VALUE, 2}, {0, Integer.MIN_VALUE},
        {11, Integer.MAX_VALUE}, {1431655765, 1}, {1431655766, 0}, {-1431655765, 0}};

    public static void main(String[] args) {
        namesAreTwelveAndPlatformsThree();
        statesOfAll();
        statesOfEmptyAnswers();
        statesByFolded();
        keepOfEmptyAndFull();
        keepInPlace();
        keepIsItsOwn();
        keepRefusedInTime();
        giveTellsStates();
        giveRefusedInTime();
        beginTellsHowMany();
        forgetTwice();
        statesAreFive();
        sidesAreFour();
        tokenHasNotSoMany();
        tokenRefusedInTime();
        costOfOthers();
        costAtItsEnds();
        changesAtTheirEnds();
        fortyChanges();
        changeRefusedInTime();
        changesAsLongAsCanBe();
        changesAtBothEnds();
        leastDifferences();
        nearestOfNone();
        nearestOfSeveral();
        nearestOfEmptyAndFarthest();
        nearestByFolded();
        Due.end("AnswersEdgesTest");
    }

    // "There are NAMES 0 .. 11 and PLATFORMS 0 .. 2."
    private static void namesAreTwelveAndPlatformsThree() {
        ofAll("keep", (x, n, p) -> x.keep(n, p, 0), (x, n, p) -> 1);
        ofAll("give", (x, n, p) -> x.give(n, p, 0), (x, n, p) -> 2);
        ofAll("forget", (x, n, p) -> x.forget(n, p), (x, n, p) -> 1);
        ofAll("state", (x, n, p) -> x.state(n, p), (x, n, p) -> 3);
        ofAll("token", (x, n, p) -> x.token(n, p, 2, 0), (x, n, p) -> 2);
        ofAll("cost", (x, n, p) -> x.cost(n, p), (x, n, p) -> 2);
        ofAll("change", (x, n, p) -> x.change(n, p, 0, 3), (x, n, p) -> 1);
        ofAll("nearest", (x, n, p) -> x.nearest(n, p), (x, n, p) -> p == 0 ? 1 : 0);
        ofAll("look", (x, n, p) -> x.look(3, n, p, 0), (x, n, p) -> 1);
        ofAll("approve", (x, n, p) -> x.approve(0, n, p, 0, 1), (x, n, p) -> n * 3 + p);
        ofAll("kind", (x, n, p) -> x.kind(n, p), (x, n, p) -> 0);
        ofAll("as", (x, n, p) -> x.as(n, p, 0), (x, n, p) -> 1);
        ofAll("ask", (x, n, p) -> x.ask(n, p, 1), (x, n, p) -> n);
    }

    private static void ofAll(String what, Call call, Call due) {
        GoldenKeeper x = Due.allChanged();
        for (int[] no : NO_PLACES) {
            Due.is(what + " " + no[0] + " " + no[1], call.on(x, no[0], no[1]), Due.BAD);
        }
        for (int at = 0; at < 36; at++) {
            int n = at / 3;
            int p = at % 3;
            Due.is(what + " " + n + " " + p, call.on(x, n, p), due.on(x, n, p));
        }
    }

    // "0 nothing; 1 NEW ..; 2 SAME ..; 3 CHANGED ..; 4 STALE ..", each of all 36
    private static void statesOfAll() {
        GoldenKeeper x = new GoldenKeeper(0);
        allAre(x, 0);
        Due.fill(x, 0, 1);
        for (int at = 0; at < 36; at++) {
            x.give(at / 3, at % 3, 0);
        }
        allAre(x, 1);
        for (int at = 0; at < 36; at++) {
            x.keep(at / 3, at % 3, 0);
        }
        allAre(x, 2);
        x.begin();
        allAre(x, 4);
        allAre(Due.allChanged(), 3);
    }

    private static void allAre(GoldenKeeper x, int due) {
        for (int state = 0; state <= 4; state++) {
            Due.is("states " + state + " of all " + due, x.states(state), state == due ? 36 : 0);
        }
        Due.is("the first", x.state(0, 0), due);
        Due.is("the last", x.state(11, 2), due);
    }

    private static void statesOfEmptyAnswers() {
        GoldenKeeper x = new GoldenKeeper(7);
        Due.keep(x, 0, 0);
        Due.is("KEPT, not given", x.state(0, 0), 4);
        Due.is("both", Due.give(x, 0, 0), 2);
        Due.is("given has one more", Due.give(x, 0, 0, 5), 3);
        Due.is("given, not KEPT", Due.give(x, 0, 1), 1);
        Due.keep(x, 0, 1, 120, 121);
        Due.is("an empty LIST is not nothing", x.state(0, 1), 3);
        Due.is("cost of it", x.cost(0, 1), 2);
    }

    // "2 SAME: both, FOLDED alike; 3 CHANGED: both, FOLDED unlike"
    private static void statesByFolded() {
        for (int rules = 0; rules < 8; rules++) {
            GoldenKeeper x = new GoldenKeeper(rules);
            Due.keep(x, 0, 0, 100);
            Due.is("DATES", Due.give(x, 0, 0, 109), (rules & 1) != 0 ? 2 : 3);
            Due.keep(x, 1, 0, 110);
            Due.is("IDS", Due.give(x, 1, 0, 119), (rules & 2) != 0 ? 2 : 3);
            Due.keep(x, 2, 0, 120, 0, 99, 121);
            Due.is("LISTS", Due.give(x, 2, 0, 120, 99, 0, 121), (rules & 4) != 0 ? 2 : 3);
            Due.keep(x, 3, 0, 99);
            Due.is("a WORD is no DATE", Due.give(x, 3, 0, 100), 3);
            Due.keep(x, 4, 0, 109);
            Due.is("a DATE is no ID", Due.give(x, 4, 0, 110), 3);
            Due.keep(x, 5, 0, 1, 2);
            Due.is("the beginning of it", Due.give(x, 5, 0, 1), 3);
            Due.is("more than it", Due.give(x, 5, 0, 1, 2, 3), 3);
            Due.is("it", Due.give(x, 5, 0, 1, 2), 2);
        }
    }

    // "KEPT is what a ROW has: how many TOKENS, FOLDED."
    private static void keepOfEmptyAndFull() {
        GoldenKeeper x = new GoldenKeeper(7);
        x.row(0, 0, 0);
        Due.is("none", x.keep(0, 0, 0), 0);
        x.row(0, 1, 60);
        Due.is("sixty", x.keep(11, 2, 0), 60);
        Due.is("the last of sixty", x.token(11, 2, 0, 59), 0);
        Due.is("none behind it", x.token(11, 2, 0, 60), Due.NONE);
        Due.is("KEPT ones", x.count(1), 2);
    }

    private static void keepInPlace() {
        GoldenKeeper x = new GoldenKeeper(1);
        Due.keep(x, 0, 0, 101, 2, 3);
        Due.keep(x, 0, 0, 7);
        Due.tokens("FOLDED", x, 0, 0, 0, 7);
        Due.tokens("plain", x, 0, 0, 1, 7);
        Due.is("KEPT ones", x.count(1), 1);
        Due.keep(x, 0, 0);
        Due.tokens("an empty one in its place", x, 0, 0, 0);
        Due.is("still KEPT", x.count(1), 1);
    }

    private static void keepIsItsOwn() {
        GoldenKeeper x = new GoldenKeeper(0);
        Due.fill(x, 0, 1, 2);
        x.keep(0, 0, 0);
        x.give(0, 1, 0);
        x.set(0, 0, 9);
        Due.tokens("KEPT, the ROW set", x, 0, 0, 1, 1, 2);
        Due.tokens("given, the ROW set", x, 0, 1, 3, 1, 2);
        x.drop(0);
        Due.tokens("KEPT, the ROW dropped", x, 0, 0, 0, 1, 2);
        Due.tokens("given, the ROW dropped", x, 0, 1, 2, 1, 2);
    }

    // "BAD: NAME, PLATFORM, ROW; NULL; then STATE: it is no ANSWER."
    private static void keepRefusedInTime() {
        GoldenKeeper x = new GoldenKeeper(0);
        Due.keep(x, 0, 0, 4, 5);
        Due.is("NAME ahead of NULL", x.keep(12, 0, 0), Due.BAD);
        Due.is("PLATFORM ahead of NULL", x.keep(0, 3, 0), Due.BAD);
        Due.is("NULL", x.keep(0, 0, 0), Due.NULL);
        Due.fill(x, 0, 120);
        Due.is("NAME ahead of STATE", x.keep(-1, 0, 0), Due.BAD);
        Due.is("PLATFORM ahead of STATE", x.keep(0, -1, 0), Due.BAD);
        x.drop(1);
        Due.is("STATE", x.keep(0, 0, 0), Due.STATE);
        Due.is("status is that of drop", x.status(), 1);
        Due.is("ROW", x.keep(0, 0, 8), Due.BAD);
        Due.tokens("KEPT as it was", x, 0, 0, 1, 4, 5);
    }

    // "The RUN gave what a ROW has: its STATE then."
    private static void giveTellsStates() {
        GoldenKeeper x = new GoldenKeeper(0);
        Due.is("NEW", Due.give(x, 5, 1, 1), 1);
        Due.is("NEW again", Due.give(x, 5, 1, 2), 1);
        Due.keep(x, 5, 1, 2);
        Due.is("CHANGED", Due.give(x, 5, 1, 1), 3);
        Due.is("SAME", Due.give(x, 5, 1, 2), 2);
        Due.is("one given", x.count(2), 1);
        Due.is("of another PLATFORM", Due.give(x, 5, 2, 2), 1);
        Due.is("of another NAME", Due.give(x, 4, 1, 2), 1);
    }

    // "BAD; NULL; STATE likewise."
    private static void giveRefusedInTime() {
        GoldenKeeper x = new GoldenKeeper(0);
        Due.give(x, 0, 0, 4, 5);
        Due.is("NAME ahead of NULL", x.give(12, 0, 0), Due.BAD);
        Due.is("PLATFORM ahead of NULL", x.give(0, 3, 0), Due.BAD);
        Due.is("NULL", x.give(0, 0, 0), Due.NULL);
        Due.fill(x, 0, 121);
        Due.is("NAME ahead of STATE", x.give(-1, 0, 0), Due.BAD);
        Due.is("PLATFORM ahead of STATE", x.give(0, -1, 0), Due.BAD);
        x.drop(1);
        Due.is("STATE", x.give(0, 0, 0), Due.STATE);
        Due.is("status is that of drop", x.status(), 1);
        Due.is("ROW", x.give(0, 0, 8), Due.BAD);
        Due.tokens("given as it was", x, 0, 0, 3, 4, 5);
    }

    // "A new RUN: nothing is given: how many were."
    private static void beginTellsHowMany() {
        Due.is("none of a new object", new GoldenKeeper(0).begin(), 0);
        GoldenKeeper x = Due.allChanged();
        Due.is("all 36", x.begin(), 36);
        Due.is("none then", x.begin(), 0);
        Due.is("none are given", x.count(2), 0);
        Due.is("all are KEPT", x.count(1), 36);
        Due.is("no CHANGES", x.count(5), 0);
        Due.is("no GROUPS", x.groups(), 0);
        Due.is("given one again", x.give(11, 2, 1), 3);
        Due.is("one", x.begin(), 1);
        Due.give(x, 3, 0);
        Due.is("an empty one is one", x.begin(), 1);
    }

    // "KEPT is kept no more: 1; 0: nothing was."
    private static void forgetTwice() {
        GoldenKeeper x = new GoldenKeeper(0);
        Due.is("nothing was", x.forget(0, 0), 0);
        Due.give(x, 0, 0, 1);
        Due.is("given is not KEPT", x.forget(0, 0), 0);
        Due.is("and stays given", x.state(0, 0), 1);
        Due.keep(x, 0, 0);
        Due.keep(x, 0, 1, 1);
        Due.is("an empty one", x.forget(0, 0), 1);
        Due.is("no more", x.forget(0, 0), 0);
        Due.is("NEW", x.state(0, 0), 1);
        Due.is("another PLATFORM stays", x.state(0, 1), 4);
        Due.is("one KEPT", x.count(1), 1);
    }

    // "How many are of a STATE (0 .. 4). BAD."
    private static void statesAreFive() {
        GoldenKeeper x = new GoldenKeeper(0);
        Due.give(x, 0, 0, 1);
        Due.keep(x, 11, 2, 1);
        Due.ends("states", 0, 4, state -> x.states(state), state -> state == 0 ? 34 : state == 1 || state == 4 ? 1 : 0);
    }

    // "what is KEPT (side = 0: FOLDED, 1: plain), given (2, 3)"
    private static void sidesAreFour() {
        GoldenKeeper x = new GoldenKeeper(1);
        Due.keep(x, 0, 0, 101, 7);
        Due.give(x, 0, 0, 102, 8);
        int[] first = {100, 101, 100, 102};
        Due.ends("side", 0, 3, side -> x.token(0, 0, side, 0), side -> first[side]);
    }

    // "NONE: it has not so many."
    private static void tokenHasNotSoMany() {
        for (int n : Due.of(0, 1, 60)) {
            GoldenKeeper x = new GoldenKeeper(7);
            int[] row = new int[n];
            java.util.Arrays.fill(row, 33);
            Due.keep(x, 0, 0, row);
            Due.give(x, 0, 0, row);
            for (int side = 0; side < 4; side++) {
                if (n > 0) {
                    Due.is("the last of " + n, x.token(0, 0, side, n - 1), 33);
                }
                for (int i : Due.of(n, n + 1, -1, Integer.MIN_VALUE, Integer.MAX_VALUE)) {
                    Due.is("TOKEN " + i + " of " + n, x.token(0, 0, side, i), Due.NONE);
                }
            }
        }
    }

    // "BAD: NAME, PLATFORM, side; STATE: there is none."
    private static void tokenRefusedInTime() {
        GoldenKeeper x = new GoldenKeeper(0);
        for (int side = 0; side < 4; side++) {
            Due.is("there is none", x.token(0, 0, side, 0), Due.STATE);
            Due.is("STATE ahead of NONE", x.token(0, 0, side, -1), Due.STATE);
        }
        Due.is("side ahead of STATE", x.token(0, 0, 4, 0), Due.BAD);
        Due.is("side ahead of STATE", x.token(0, 0, -1, 0), Due.BAD);
        Due.keep(x, 0, 0, 1);
        Due.is("KEPT", x.token(0, 0, 1, 0), 1);
        Due.is("not given", x.token(0, 0, 2, 0), Due.STATE);
        x.forget(0, 0);
        Due.give(x, 0, 0, 1);
        Due.is("not KEPT", x.token(0, 0, 1, 0), Due.STATE);
        Due.is("given", x.token(0, 0, 2, 0), 1);
    }

    // "COST of a CHANGED one; 0 of others."
    private static void costOfOthers() {
        GoldenKeeper x = new GoldenKeeper(1);
        Due.is("nothing", x.cost(0, 0), 0);
        Due.give(x, 0, 0, 1, 2, 3);
        Due.is("NEW", x.cost(0, 0), 0);
        Due.keep(x, 0, 0, 1, 2, 3);
        Due.is("SAME", x.cost(0, 0), 0);
        x.begin();
        Due.is("STALE", x.cost(0, 0), 0);
        Due.keep(x, 0, 1, 101);
        Due.give(x, 0, 1, 109);
        Due.is("SAME, but plain unlike", x.cost(0, 1), 0);
    }

    private static void costAtItsEnds() {
        GoldenKeeper x = new GoldenKeeper(0);
        Due.keep(x, 0, 0, new int[60]);
        Due.give(x, 0, 0, Due.upTo(1, 60));
        Due.is("nothing stays of sixty and sixty", x.cost(0, 0), 120);
        Due.keep(x, 0, 1);
        Due.give(x, 0, 1, Due.upTo(1, 60));
        Due.is("sixty come", x.cost(0, 1), 60);
        Due.give(x, 0, 1, 9);
        Due.is("one comes", x.cost(0, 1), 1);
        Due.keep(x, 0, 1, 9, 9);
        Due.is("one goes", x.cost(0, 1), 1);
        Due.is("where the alike ones end", x.change(0, 1, 0, 0), 1);
    }

    // "0 where it begins in the KEPT one, 1 how many go, 2 where in the given one, 3 how many come, 4 its GROUP"
    private static void changesAtTheirEnds() {
        GoldenKeeper x = new GoldenKeeper(0);
        Due.keep(x, 0, 0, 1, 2, 3, 9);
        Due.give(x, 0, 0, 1, 4, 3, 9, 6, 6);
        int[] first = {1, 1, 1, 1, 0};
        int[] last = {4, 0, 4, 2, 1};
        Due.ends("what of the first", 0, 4, what -> x.change(0, 0, 0, what), what -> first[what]);
        Due.ends("what of the last", 0, 4, what -> x.change(0, 0, 1, what), what -> last[what]);
        for (int i : Due.of(2, -1, Integer.MIN_VALUE, Integer.MAX_VALUE)) {
            Due.ends("what of CHANGE " + i, 0, 4, what -> x.change(0, 0, i, what), what -> Due.NONE);
        }
    }

    // as many CHANGES as two rows of 60 can have
    private static void fortyChanges() {
        GoldenKeeper x = new GoldenKeeper(0);
        Due.keep(x, 11, 2, Due.everyOther(98, 0));
        Due.give(x, 11, 2, Due.everyOther(99, 1));
        Due.is("CHANGES", x.count(5), 40);
        Due.is("cost", x.cost(11, 2), 40);
        for (int i = 0; i < 40; i++) {
            int before = i / 2 + i % 2;
            Due.change(x, 11, 2, i, i + before, 1 - i % 2, i + i / 2, i % 2, i % 2);
        }
        Due.is("no more", x.change(11, 2, 40, 0), Due.NONE);
    }

    // "BAD: NAME, PLATFORM, what; NONE: there are not so many."
    private static void changeRefusedInTime() {
        GoldenKeeper x = new GoldenKeeper(0);
        Due.is("nothing", x.change(0, 0, 0, 4), Due.NONE);
        Due.is("what ahead of NONE", x.change(0, 0, 0, 5), Due.BAD);
        Due.is("what ahead of NONE", x.change(0, 0, -1, -1), Due.BAD);
        Due.keep(x, 0, 0, 1);
        Due.is("STALE", x.change(0, 0, 0, 0), Due.NONE);
        Due.give(x, 0, 0, 1);
        Due.is("SAME", x.change(0, 0, 0, 0), Due.NONE);
        x.forget(0, 0);
        Due.is("NEW", x.change(0, 0, 0, 0), Due.NONE);
    }

    // "CHANGES: rows of steps without staying ones, as long as can be."
    private static void changesAsLongAsCanBe() {
        GoldenKeeper x = new GoldenKeeper(0);
        Due.keep(x, 0, 0, 1, 2, 5);
        Due.give(x, 0, 0, 3, 4, 5);
        Due.change(x, 0, 0, 0, 0, 2, 0, 2, 0);
        Due.is("one CHANGE", x.count(5), 1);
        Due.keep(x, 0, 0, 1, 5, 2);
        Due.give(x, 0, 0, 3, 5, 4);
        Due.change(x, 0, 0, 0, 0, 1, 0, 1, 0);
        Due.change(x, 0, 0, 1, 2, 1, 2, 1, 1);
        Due.is("one that stays parts them", x.count(5), 2);
    }

    private static void changesAtBothEnds() {
        GoldenKeeper x = new GoldenKeeper(0);
        Due.keep(x, 0, 0, 7, 1, 8);
        Due.give(x, 0, 0, 1);
        Due.change(x, 0, 0, 0, 0, 1, 0, 0);
        Due.change(x, 0, 0, 1, 2, 1, 1, 0);
        Due.keep(x, 0, 0, 1);
        Due.give(x, 0, 0, 7, 1, 8);
        Due.change(x, 0, 0, 0, 0, 0, 0, 1);
        Due.change(x, 0, 0, 1, 1, 0, 2, 1);
        Due.keep(x, 0, 0);
        Due.change(x, 0, 0, 0, 0, 0, 0, 3);
        Due.keep(x, 0, 0, 7, 1, 8);
        Due.give(x, 0, 0);
        Due.change(x, 0, 0, 0, 0, 3, 0, 0);
        Due.is("one CHANGE of an empty one", x.count(5), 1);
    }

    // "if both TOKENS are the same, they stay; else the KEPT one goes, if COST can still be least; else the given one
    // comes", for all short rows
    private static void leastDifferences() {
        List<int[]> rows = new ArrayList<>();
        addRows(rows, Due.of(), 3, 3);
        addRows(rows, Due.of(), 2, 5);
        for (int[] kept : rows) {
            for (int[] given : rows) {
                leastDifference(kept, given);
            }
        }
    }

    private static void addRows(List<int[]> rows, int[] start, int words, int longest) {
        rows.add(start);
        for (int w = 1; w <= words && start.length < longest; w++) {
            addRows(rows, Due.join(start, Due.of(w)), words, longest);
        }
    }

    private static void leastDifference(int[] kept, int[] given) {
        GoldenKeeper x = new GoldenKeeper(0);
        Due.keep(x, 0, 0, kept);
        Due.give(x, 0, 0, given);
        Due.is("cost", x.cost(0, 0), least(kept, 0, given, 0));
        int changes = 0;
        int i = 0;
        int j = 0;
        while (i < kept.length || j < given.length) {
            int fromI = i;
            int fromJ = j;
            while (i < kept.length && (j == given.length
                || kept[i] != given[j] && least(kept, i + 1, given, j) < least(kept, i, given, j))) {
                i++;
            }
            while (j < given.length && (i == kept.length || kept[i] != given[j])) {
                j++;
            }
            if (i > fromI || j > fromJ) {
                Due.change(x, 0, 0, changes++, fromI, i - fromI, fromJ, j - fromJ);
            }
            i++;
            j++;
        }
        Due.is("no more", x.change(0, 0, changes, 0), Due.NONE);
    }

    /** The least COST from two places on, by trying for each set of TOKENS of the one whether it can stay. */
    private static int least(int[] a, int i, int[] b, int j) {
        int most = 0;
        for (int set = 0; set < 1 << (a.length - i); set++) {
            int at = j;
            boolean all = true;
            for (int k = i; k < a.length; k++) {
                if ((set >> (k - i) & 1) != 0) {
                    while (at < b.length && b[at] != a[k]) {
                        at++;
                    }
                    all &= at < b.length;
                    at++;
                }
            }
            most = all ? Math.max(most, Integer.bitCount(set)) : most;
        }
        return a.length - i + b.length - j - 2 * most;
    }

    // "itself aside ..; NONE: there is none. BAD; STATE: nothing was given."
    private static void nearestOfNone() {
        GoldenKeeper x = new GoldenKeeper(0);
        Due.is("nothing at all", x.nearest(11, 2), Due.STATE);
        Due.keep(x, 11, 0, 1);
        Due.is("KEPT, nothing given", x.nearest(11, 2), Due.STATE);
        Due.give(x, 11, 1, 1);
        Due.is("given for another PLATFORM", x.nearest(11, 2), Due.STATE);
        Due.give(x, 11, 0, 1);
        Due.is("itself aside", x.nearest(11, 0), Due.NONE);
        Due.keep(x, 10, 2, 1);
        Due.is("of another NAME", x.nearest(11, 0), Due.NONE);
        Due.is("this one not KEPT", x.nearest(11, 1), 0);
        x.forget(11, 0);
        Due.is("KEPT no more", x.nearest(11, 1), Due.NONE);
        x.begin();
        Due.is("given no more", x.nearest(11, 1), Due.STATE);
    }

    // "(of several the first)"
    private static void nearestOfSeveral() {
        GoldenKeeper x = new GoldenKeeper(0);
        for (int p = 0; p < 3; p++) {
            Due.keep(x, 0, p, 1, 2);
            Due.give(x, 0, p, 1);
        }
        Due.is("1 and 2 alike", x.nearest(0, 0), 1);
        Due.is("0 and 2 alike", x.nearest(0, 1), 0);
        Due.is("0 and 1 alike", x.nearest(0, 2), 0);
        Due.keep(x, 0, 2, 1, 3);
        Due.is("unlike, of the same COST", x.nearest(0, 0), 1);
        Due.keep(x, 0, 2, 1);
        Due.is("the last is nearer by one", x.nearest(0, 0), 2);
        Due.keep(x, 0, 1);
        Due.is("one that comes is farther than none", x.nearest(0, 0), 2);
        Due.keep(x, 0, 2, 2, 3);
        Due.is("one that comes is nearer than three", x.nearest(0, 0), 1);
    }

    private static void nearestOfEmptyAndFarthest() {
        GoldenKeeper x = new GoldenKeeper(0);
        Due.give(x, 0, 0, Due.upTo(1, 60));
        Due.keep(x, 0, 2, new int[60]);
        Due.is("by 120, but the only one", x.nearest(0, 0), 2);
        Due.keep(x, 0, 1);
        Due.is("an empty one, by 60", x.nearest(0, 0), 1);
        Due.give(x, 0, 0);
        Due.is("empty ones", x.nearest(0, 0), 1);
        Due.keep(x, 0, 1, 5);
        Due.keep(x, 0, 2);
        Due.is("empty ones", x.nearest(0, 0), 2);
    }

    // "by COST (of FOLDED ones)"
    private static void nearestByFolded() {
        GoldenKeeper x = new GoldenKeeper(1);
        Due.give(x, 0, 0, 101, 102, 1);
        Due.keep(x, 0, 1, 101, 102, 2);
        Due.keep(x, 0, 2, 108, 109, 1);
        Due.is("FOLDED alike", x.nearest(0, 0), 2);
        GoldenKeeper y = new GoldenKeeper(0);
        Due.give(y, 0, 0, 101, 102, 1);
        Due.keep(y, 0, 1, 101, 102, 2);
        Due.keep(y, 0, 2, 108, 109, 1);
        Due.is("without rules", y.nearest(0, 0), 1);
    }

    private AnswersEdgesTest() { }
}
