import java.util.ArrayList;
import java.util.List;
import java.util.function.ToIntFunction;

/**
 * "What is refused, or found, changes nothing but status(), if nothing else is told.": after each refusal of each call
 * an object answers all that can be asked, and goes on, like a twin that was not called. Each probe has objects of its
 * own, so that none is used for more than 512 calls.
 */
public final class RefusalsTest {
    private static final int LEAST = Integer.MIN_VALUE;
    private static final int MOST = Integer.MAX_VALUE;

    /** What an object is made and brought to. */
    private interface History {
        GoldenKeeper make();
    }

    /** Asks, or goes on, and tells all answers. */
    private interface Probe {
        void on(GoldenKeeper x, List<Integer> answers);
    }

    public static void main(String[] args) {
        bad();
        state();
        full();
        found();
        nothing();
        askOfNone();
        Due.end("RefusalsTest");
    }

    private static void bad() {
        History h = RefusalsTest::brought;
        for (int no : Due.of(-1, 8, LEAST, MOST)) {
            refused(h, "row " + no, Due.BAD, x -> x.row(no, 0, 1));
            refused(h, "set " + no, Due.BAD, x -> x.set(no, 0, 1));
            refused(h, "copy from " + no, Due.BAD, x -> x.copy(no, 0, 0, 0, 1));
            refused(h, "copy to " + no, Due.BAD, x -> x.copy(0, 0, no, 0, 1));
            refused(h, "drop " + no, Due.BAD, x -> x.drop(no));
            refused(h, "fold " + no, Due.BAD, x -> x.fold(no, 0));
            refused(h, "keep of " + no, Due.BAD, x -> x.keep(0, 0, no));
            refused(h, "give of " + no, Due.BAD, x -> x.give(0, 0, no));
        }
        for (int no : Due.of(-1, 3, LEAST, MOST)) {
            refused(h, "row, LANE " + no, Due.BAD, x -> x.row(0, no, 1));
            badPlace(h, 0, no);
        }
        for (int no : Due.of(-1, 12, LEAST, MOST)) {
            badPlace(h, no, 0);
        }
        refused(h, "row of 61", Due.BAD, x -> x.row(0, 0, 61));
        badNumbers(h);
    }

    private static void badPlace(History h, int name, int platform) {
        String at = " " + name + " " + platform;
        refused(h, "keep" + at, Due.BAD, x -> x.keep(name, platform, 0));
        refused(h, "give" + at, Due.BAD, x -> x.give(name, platform, 0));
        refused(h, "forget" + at, Due.BAD, x -> x.forget(name, platform));
        refused(h, "look" + at, Due.BAD, x -> x.look(0, name, platform, 0));
        refused(h, "approve" + at, Due.BAD, x -> x.approve(0, name, platform, 0, 0));
        refused(h, "as" + at, Due.BAD, x -> x.as(name, platform, 0));
        refused(h, "ask" + at, Due.BAD, x -> x.ask(name, platform, 0));
        refused(h, "state" + at, Due.BAD, x -> x.state(name, platform));
        refused(h, "nearest" + at, Due.BAD, x -> x.nearest(name, platform));
    }

    private static void badNumbers(History h) {
        for (int no : Due.of(-1, 4, LEAST, MOST)) {
            refused(h, "look of HAND " + no, Due.BAD, x -> x.look(no, 0, 0, 0));
            refused(h, "approve of HAND " + no, Due.BAD, x -> x.approve(no, 0, 0, 0, 0));
            refused(h, "approveAll of HAND " + no, Due.BAD, x -> x.approveAll(no, 0, 0));
            refused(h, "as " + no, Due.BAD, x -> x.as(0, 0, no));
        }
        for (int no : Due.of(-1, 2, LEAST, MOST)) {
            refused(h, "approve, DOUBT " + no, Due.BAD, x -> x.approve(0, 0, 0, 0, no));
            refused(h, "approveAll, DOUBT " + no, Due.BAD, x -> x.approveAll(0, 0, no));
            refused(h, "ask " + no, Due.BAD, x -> x.ask(2, 0, no));
        }
        for (int no : Due.of(-1, 3, LEAST, MOST)) {
            refused(h, "look at CHANGE " + no, Due.BAD, x -> x.look(0, 0, 0, no));
            refused(h, "approve CHANGE " + no, Due.BAD, x -> x.approve(0, 0, 0, no, 0));
        }
        for (int no : Due.of(-1, 9, LEAST, MOST)) {
            refused(h, "approveAll of GROUP " + no, Due.BAD, x -> x.approveAll(0, no, 0));
        }
    }

    private static void state() {
        History h = RefusalsTest::brought;
        refused(h, "fold", Due.STATE, x -> x.fold(2, 0));
        refused(h, "keep", Due.STATE, x -> x.keep(0, 0, 2));
        refused(h, "keep, none KEPT", Due.STATE, x -> x.keep(8, 0, 2));
        refused(h, "give", Due.STATE, x -> x.give(0, 0, 2));
        refused(h, "give, none given", Due.STATE, x -> x.give(8, 0, 2));
        refused(h, "token", Due.STATE, x -> x.token(8, 0, 0, 0));
        refused(h, "nearest", Due.STATE, x -> x.nearest(2, 0));
        refused(h, "approve", Due.STATE, x -> x.approve(0, 1, 0, 0, 0));
        refused(h, "approve", Due.STATE, x -> x.approve(3, 1, 0, 1, 1));
        refused(h, "approveAll", Due.STATE, x -> x.approveAll(0, x.change(1, 0, 0, 4), 0));
        refused(h, "approveAll", Due.STATE, x -> x.approveAll(3, x.change(1, 0, 1, 4), 1));
        refused(h, "kind", Due.STATE, x -> x.kind(8, 0));
        refused(h, "as", Due.STATE, x -> x.as(8, 0, 0));
    }

    private static void full() {
        History h = RefusalsTest::broughtToAFullBook;
        for (int hand = 0; hand < 4; hand++) {
            int own = hand;
            for (int i = 0; i < 3; i++) {
                int at = i;
                refused(h, "approve", Due.FULL, x -> x.approve(own, 0, 0, at, 1));
            }
            refused(h, "approveAll", Due.FULL, x -> x.approveAll(own, 0, 0));
        }
    }

    private static void found() {
        finding("row", 4, x -> x.row(0, 2, -1));
        finding("row that is missing", 4, x -> x.row(5, 2, LEAST));
        finding("set", 1, x -> x.set(5, 0, 1));
        finding("set", 2, x -> x.set(0, 5, 1));
        finding("set", 2, x -> x.set(0, -1, 1));
        finding("set of an empty ROW", 2, x -> x.set(3, 0, 1));
        finding("copy", 1, x -> x.copy(5, 0, 0, 0, 1));
        finding("copy", 1, x -> x.copy(0, 0, 5, 0, 1));
        finding("copy", 5, x -> x.copy(0, 0, 1, 0, 1));
        finding("copy", 2, x -> x.copy(0, 0, 0, 1, 5));
        finding("copy", 2, x -> x.copy(0, -1, 0, 1, 2));
        finding("copy", 2, x -> x.copy(0, 0, 6, 0, 3));
        finding("drop", 1, x -> x.drop(5));
        finding("fold", 1, x -> x.fold(5, 0));
        finding("keep", 1, x -> x.keep(0, 0, 5));
        finding("give", 1, x -> x.give(0, 0, 5));
        finding("as", 3, x -> x.as(0, 0, 3));
        finding("as", 3, x -> x.as(2, 0, 2));
    }

    /** What only asks, and what comes to nothing, changes nothing, either. */
    private static void nothing() {
        History h = RefusalsTest::brought;
        refused(h, "forget", 0, x -> x.forget(8, 0));
        refused(h, "state", 3, x -> x.state(0, 0));
        refused(h, "states", 2, x -> x.states(3));
        refused(h, "token", 1, x -> x.token(0, 0, 0, 0));
        refused(h, "cost", 6, x -> x.cost(0, 0));
        refused(h, "change", Due.NONE, x -> x.change(0, 0, 3, 0));
        refused(h, "change", 0, x -> x.change(0, 0, 0, 4));
        refused(h, "nearest", 1, x -> x.nearest(0, 0));
        refused(h, "groups", 6, x -> x.groups());
        refused(h, "group", 1, x -> x.group(0, 0));
        refused(h, "group", Due.BAD, x -> x.group(6, 0));
        refused(h, "shape", Due.NONE, x -> x.shape(0, 0, 1));
        refused(h, "entry", Due.NONE, x -> x.entry(2, 0));
        refused(h, "kind", 3, x -> x.kind(3, 0));
        refused(h, "trace", Due.NONE, x -> x.trace(16));
        refused(h, "count", Due.BAD, x -> x.count(7));
        refused(h, "status", 5, x -> x.status());
    }

    // "THE TRACE is empty ahead of it, if it is not BAD": the one thing that is told to change
    private static void askOfNone() {
        int k = 0;
        for (Probe probe : probes()) {
            GoldenKeeper x = brought();
            Due.is("ask", x.ask(8, 0, 0), Due.STATE);
            Due.is("ask leaves status", x.status(), 5);
            same("ask, STATE", k++, probe, x, broughtUnasked());
        }
    }

    /** A call that answers so leaves all as it was. */
    private static void refused(History history, String what, int due, ToIntFunction<GoldenKeeper> call) {
        int k = 0;
        for (Probe probe : probes()) {
            GoldenKeeper x = history.make();
            int status = x.status();
            Due.is(what, call.applyAsInt(x), due);
            Due.is(what + ": status", x.status(), status);
            same(what, k++, probe, x, history.make());
        }
    }

    /** A call with a FINDING changes status() alone. */
    private static void finding(String what, int number, ToIntFunction<GoldenKeeper> call) {
        int k = 0;
        for (Probe probe : probes()) {
            GoldenKeeper x = brought();
            Due.is(what, call.applyAsInt(x), -1000010 - number);
            Due.is(what + ": status", x.status(), number);
            same(what, k++, probe, x, brought());
        }
    }

    private static void same(String what, int k, Probe probe, GoldenKeeper x, GoldenKeeper twin) {
        List<Integer> answers = new ArrayList<>();
        List<Integer> due = new ArrayList<>();
        probe.on(x, answers);
        probe.on(twin, due);
        Due.isTrue(what + " has changed something (probe " + k + "): " + answers + ", due is " + due, answers.equals(due));
    }

    /** An object with some of each: ROWS of all LANES, STATES, KINDS, looks, ENTRIES, a TRACE and a status. */
    private static GoldenKeeper brought() {
        GoldenKeeper x = broughtUnasked();
        x.ask(3, 0, 0);
        return x;
    }

    private static GoldenKeeper broughtUnasked() {
        GoldenKeeper x = new GoldenKeeper(7);
        Due.keep(x, 0, 0, 1, 5, 2, 6, 3);
        Due.give(x, 0, 0, 7, 5, 8, 6, 9);
        Due.keep(x, 0, 1, 1, 30);
        Due.give(x, 0, 1, 10, 30);
        Due.keep(x, 1, 0, 1, 2);
        Due.give(x, 1, 0, 120, 1, 121, 2, 11);
        Due.keep(x, 2, 0, 101);
        Due.keep(x, 3, 0, 102);
        Due.keep(x, 4, 0, 1);
        Due.keep(x, 4, 1, 2);
        Due.give(x, 5, 0, 1);
        x.look(0, 0, 0, 1);
        x.look(1, 0, 0, 2);
        Due.is("ENTRY 0", x.approve(2, 0, 1, 0, 1), 0);
        Due.is("ENTRY 1", x.approveAll(0, x.change(0, 0, 1, 4), 0), 1);
        Due.is("undone", x.undo(), 1);
        Due.fill(x, 0, 120, 4, 3, 121, 105);
        x.row(1, 1, 2);
        x.set(1, 1, 9);
        x.row(2, 0, 1);
        x.set(2, 0, 120);
        x.row(3, 2, 0);
        x.row(6, 2, 2);
        Due.is("STORE", x.copy(0, 0, 1, 0, 1), Due.STORE);
        return x;
    }

    private static GoldenKeeper broughtToAFullBook() {
        GoldenKeeper x = brought();
        // by a HAND whose look at this CHANGE is there already
        for (int e = 2; e < 100; e++) {
            x.approve(0, 0, 0, 1, 0);
            x.undo();
        }
        return x;
    }

    private static List<Probe> probes() {
        return List.of(RefusalsTest::counts, RefusalsTest::groups, RefusalsTest::places, RefusalsTest::tokens,
            RefusalsTest::rows, RefusalsTest::lanes, RefusalsTest::looksUp, RefusalsTest::looksDown,
            RefusalsTest::undoings, RefusalsTest::approvings);
    }

    private static void counts(GoldenKeeper x, List<Integer> answers) {
        for (int what = 0; what <= 6; what++) {
            answers.add(x.count(what));
        }
        for (int state = 0; state <= 4; state++) {
            answers.add(x.states(state));
        }
        for (int i = 0; i < 7; i++) {
            answers.add(x.trace(i));
        }
        for (int e = 0; e < 4; e++) {
            for (int what = 0; what < 6; what++) {
                answers.add(x.entry(e, what));
            }
        }
    }

    private static void groups(GoldenKeeper x, List<Integer> answers) {
        answers.add(x.groups());
        for (int g = 0; g < 8; g++) {
            for (int what = 0; what < 6; what++) {
                answers.add(x.group(g, what));
            }
            for (int k = 0; k < 3; k++) {
                answers.add(x.shape(g, 0, k));
                answers.add(x.shape(g, 1, k));
            }
        }
    }

    private static void places(GoldenKeeper x, List<Integer> answers) {
        for (int at = 0; at < 36; at++) {
            answers.add(x.state(at / 3, at % 3));
            answers.add(x.cost(at / 3, at % 3));
            answers.add(x.kind(at / 3, at % 3));
            answers.add(x.nearest(at / 3, at % 3));
        }
    }

    private static void tokens(GoldenKeeper x, List<Integer> answers) {
        for (int at = 0; at < 18; at++) {
            for (int i = 0; i < 6 && at % 3 < 2; i++) {
                for (int side = at < 6 ? 0 : 1; side < 4; side += at < 6 ? 1 : 2) {
                    answers.add(x.token(at / 3, at % 3, side, i));
                }
            }
        }
    }

    private static void rows(GoldenKeeper x, List<Integer> answers) {
        for (int row = 0; row < 8; row++) {
            for (int i = 0; i < 6; i++) {
                answers.add(x.fold(row, i));
            }
            answers.add(x.keep(9, 0, row));
            for (int i = 0; i < 6; i++) {
                answers.add(x.token(9, 0, 1, i));
            }
            answers.add(x.drop(row));
        }
    }

    private static void lanes(GoldenKeeper x, List<Integer> answers) {
        for (int row = 0; row < 8; row++) {
            for (int i = 0; i < 6; i++) {
                answers.add(x.set(row, i, 98765));
            }
        }
    }

    private static void looksUp(GoldenKeeper x, List<Integer> answers) {
        for (int hand = 0; hand < 4; hand++) {
            for (int i = 0; i < 3; i++) {
                answers.add(x.look(hand, 0, 0, i));
                answers.add(x.look(hand, 1, 0, i));
            }
        }
    }

    private static void looksDown(GoldenKeeper x, List<Integer> answers) {
        for (int hand = 0; hand < 4; hand++) {
            for (int i = 2; i >= 0; i--) {
                answers.add(x.look(hand, 0, 0, i));
                answers.add(x.look(hand, 1, 0, i));
            }
        }
    }

    private static void undoings(GoldenKeeper x, List<Integer> answers) {
        for (int k = 0; k < 3; k++) {
            answers.add(x.undo());
        }
        for (int at = 0; at < 6; at++) {
            for (int i = 0; i < 6; i++) {
                answers.add(x.token(at / 3, at % 3, 1, i));
            }
        }
        answers.add(x.groups());
    }

    private static void approvings(GoldenKeeper x, List<Integer> answers) {
        for (int hand = 0; hand < 4; hand++) {
            int e = x.approveAll(hand, 0, 0);
            answers.add(e);
            answers.add(x.entry(e, 3));
            answers.add(x.undo());
            e = x.approve(hand, 0, 0, 1, 1);
            answers.add(e);
            answers.add(x.entry(e, 3));
            answers.add(x.token(0, 0, 0, 2));
            answers.add(x.undo());
        }
    }

    private RefusalsTest() { }
}
