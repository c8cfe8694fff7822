/** Promises 7 to 16. */
public final class AnswersTest {
    public static void main(String[] args) {
        keepAndGive();
        beginAndForget();
        states();
        token();
        difference();
        steps();
        stepsBehindOneAnother();
        foundOutAnew();
        nearest();
        refusals();
        Due.end("AnswersTest");
    }

    private static void keepAndGive() {
        GoldenKeeper x = new GoldenKeeper(7);
        Due.fill(x, 0, 120, 105, 3, 121);
        Due.is("keep", x.keep(11, 2, 0), 4);
        Due.is("give, SAME", x.give(11, 2, 0), 2);
        Due.is("give, NEW", x.give(10, 2, 0), 1);
        x.set(0, 2, 4);
        Due.tokens("kept is a copy", x, 11, 2, 1, 120, 105, 3, 121);
        Due.is("give, CHANGED", x.give(11, 2, 0), 3);
        Due.is("keep in its place", x.keep(11, 2, 0), 4);
        Due.is("SAME again", x.state(11, 2), 2);
        Due.tokens("given, folded", x, 11, 2, 2, 120, 4, 100, 121);
        Due.tokens("given, plain", x, 11, 2, 3, 120, 105, 4, 121);
        Due.is("kept ones", x.count(1), 1);
        Due.is("given ones", x.count(2), 2);
    }

    private static void beginAndForget() {
        GoldenKeeper x = new GoldenKeeper(0);
        Due.keep(x, 0, 0, 1);
        Due.give(x, 0, 0, 1);
        Due.give(x, 4, 1, 1, 2);
        Due.is("begin", x.begin(), 2);
        Due.is("begin again", x.begin(), 0);
        Due.is("given ones", x.count(2), 0);
        Due.is("STALE", x.state(0, 0), 4);
        Due.is("nothing", x.state(4, 1), 0);
        Due.is("given no more", x.token(4, 1, 2, 0), Due.STATE);
        Due.give(x, 0, 0, 1);
        Due.is("forget", x.forget(0, 0), 1);
        Due.is("forget again", x.forget(0, 0), 0);
        Due.is("NEW", x.state(0, 0), 1);
        Due.is("kept no more", x.token(0, 0, 0, 0), Due.STATE);
    }

    private static void states() {
        GoldenKeeper x = new GoldenKeeper(1);
        Due.give(x, 1, 0, 5);
        Due.keep(x, 2, 1, 101);
        Due.is("dates are noise", Due.give(x, 2, 1, 107), 2);
        Due.keep(x, 3, 2, 5);
        Due.is("words are none", Due.give(x, 3, 2, 6), 3);
        Due.keep(x, 4, 0, 5);
        Due.is("states 0", x.states(0), 32);
        for (int s = 1; s <= 4; s++) {
            Due.is("states " + s, x.states(s), 1);
            Due.is("state " + s, x.state(s, (s - 1) % 3), s);
        }
        Due.is("cost of SAME", x.cost(2, 1), 0);
        Due.is("cost of NEW", x.cost(1, 0), 0);
        Due.is("cost of STALE", x.cost(4, 0), 0);
        Due.is("cost of nothing", x.cost(0, 0), 0);
        Due.is("cost of CHANGED", x.cost(3, 2), 2);
        Due.is("no change of NEW", x.change(1, 0, 0, 0), Due.NONE);
        Due.is("changes of all", x.count(5), 1);
    }

    private static void token() {
        GoldenKeeper x = new GoldenKeeper(2);
        Due.keep(x, 0, 0, 115, 7);
        Due.give(x, 0, 1, 114);
        Due.tokens("kept, folded", x, 0, 0, 0, 110, 7);
        Due.tokens("kept, plain", x, 0, 0, 1, 115, 7);
        Due.tokens("given, folded", x, 0, 1, 2, 110);
        Due.tokens("given, plain", x, 0, 1, 3, 114);
        Due.is("none given", x.token(0, 0, 2, 0), Due.STATE);
        Due.is("none kept", x.token(0, 1, 1, 0), Due.STATE);
        Due.is("before the first", x.token(0, 0, 0, -1), Due.NONE);
        Due.is("side 4", x.token(0, 0, 4, 0), Due.BAD);
        Due.is("side -1", x.token(0, 0, -1, 0), Due.BAD);
    }

    private static void difference() {
        GoldenKeeper x = new GoldenKeeper(0);
        Due.keep(x, 0, 0, 1, 2, 3, 4, 5, 6);
        Due.give(x, 0, 0, 1, 3, 4, 9, 8, 6, 7);
        Due.is("cost", x.cost(0, 0), 5);
        Due.change(x, 0, 0, 0, 1, 1, 1, 0, 0);
        Due.change(x, 0, 0, 1, 4, 1, 3, 2, 1);
        Due.change(x, 0, 0, 2, 6, 0, 6, 1, 2);
        Due.is("no more", x.change(0, 0, 3, 0), Due.NONE);
        Due.is("before the first", x.change(0, 0, -1, 0), Due.NONE);
        Due.is("what 5", x.change(0, 0, 0, 5), Due.BAD);
        Due.is("what -1", x.change(0, 0, 9, -1), Due.BAD);
        Due.is("changes of all", x.count(5), 3);
    }

    /** If COST can still be least, the KEPT one goes first; else the given one comes. */
    private static void steps() {
        GoldenKeeper x = new GoldenKeeper(0);
        Due.keep(x, 0, 0, 1, 2);
        Due.give(x, 0, 0, 2, 1);
        Due.change(x, 0, 0, 0, 0, 1, 0, 0);
        Due.change(x, 0, 0, 1, 2, 0, 1, 1);
        Due.keep(x, 1, 0, 1, 2, 3);
        Due.give(x, 1, 0, 3, 1, 2);
        Due.is("the given one comes", x.cost(1, 0), 2);
        Due.change(x, 1, 0, 0, 0, 0, 0, 1);
        Due.change(x, 1, 0, 1, 2, 1, 3, 0);
        Due.keep(x, 2, 0, 4, 5);
        Due.give(x, 2, 0, 6, 7, 8);
        Due.is("nothing stays", x.cost(2, 0), 5);
        Due.change(x, 2, 0, 0, 0, 2, 0, 3);
        Due.is("one change", x.change(2, 0, 1, 0), Due.NONE);
        Due.keep(x, 3, 0);
        Due.give(x, 3, 0, 6);
        Due.change(x, 3, 0, 0, 0, 0, 0, 1);
        Due.keep(x, 4, 0, 6);
        Due.give(x, 4, 0);
        Due.change(x, 4, 0, 0, 0, 1, 0, 0);
    }

    private static void stepsBehindOneAnother() {
        GoldenKeeper x = new GoldenKeeper(0);
        Due.keep(x, 0, 0, 1, 2, 3, 1, 2, 2, 1);
        Due.give(x, 0, 0, 3, 2, 1, 2, 1, 3);
        Due.is("cost", x.cost(0, 0), 5);
        Due.change(x, 0, 0, 0, 0, 2, 0, 0);
        Due.change(x, 0, 0, 1, 3, 1, 1, 0);
        Due.change(x, 0, 0, 2, 5, 0, 2, 1);
        Due.change(x, 0, 0, 3, 7, 0, 5, 1);
        Due.keep(x, 1, 0, 5, 1, 2);
        Due.give(x, 1, 0, 6, 6, 1, 2, 7);
        Due.is("cost", x.cost(1, 0), 4);
        Due.change(x, 1, 0, 0, 0, 1, 0, 2);
        Due.change(x, 1, 0, 1, 3, 0, 4, 1);
        Due.keep(x, 1, 1, 6, 6, 1);
        Due.is("nearer by two that go than by four", x.nearest(1, 0), 1);
        Due.keep(x, 1, 2, 6, 6, 1, 2, 7, 8);
        Due.is("nearer by one that goes", x.nearest(1, 0), 2);
    }

    private static void foundOutAnew() {
        GoldenKeeper x = new GoldenKeeper(0);
        Due.keep(x, 0, 0, 1, 2);
        Due.give(x, 0, 0, 1, 3);
        Due.is("cost", x.cost(0, 0), 2);
        Due.is("groups", x.groups(), 1);
        Due.keep(x, 0, 0, 1);
        Due.is("kept anew: cost", x.cost(0, 0), 1);
        Due.is("kept anew: goes", x.group(0, 1), 0);
        x.forget(0, 0);
        Due.is("forgotten: cost", x.cost(0, 0), 0);
        Due.is("forgotten: changes", x.count(5), 0);
        Due.is("forgotten: group", x.group(0, 0), Due.BAD);
        Due.keep(x, 0, 0, 1, 4);
        Due.is("kept again: shape", x.shape(0, 0, 0), 4);
        x.begin();
        Due.is("a new run: shape", x.shape(0, 0, 0), Due.BAD);
        Due.is("a new run: cost", x.cost(0, 0), 0);
        Due.is("a new run: change", x.change(0, 0, 0, 0), Due.NONE);
        Due.give(x, 0, 0, 5, 4);
        Due.is("given again: comes", x.shape(0, 1, 0), 5);
        Due.is("given again: how many", x.group(0, 0), 1);
        x.approve(0, 0, 0, 0, 0);
        Due.is("approved: cost", x.cost(0, 0), 0);
        Due.is("approved: groups", x.groups(), 0);
        x.undo();
        Due.is("undone: cost", x.cost(0, 0), 2);
        Due.is("undone: groups", x.groups(), 1);
    }

    private static void nearest() {
        GoldenKeeper x = new GoldenKeeper(1);
        Due.is("nothing given", x.nearest(0, 0), Due.STATE);
        Due.give(x, 0, 0, 1, 2, 101);
        Due.is("none kept", x.nearest(0, 0), Due.NONE);
        Due.keep(x, 0, 0, 1, 2, 101);
        Due.is("itself aside", x.nearest(0, 0), Due.NONE);
        Due.keep(x, 1, 1, 1, 2, 101);
        Due.is("of the name alone", x.nearest(0, 0), Due.NONE);
        Due.keep(x, 0, 2, 1, 2, 5);
        Due.is("the only one", x.nearest(0, 0), 2);
        Due.keep(x, 0, 1, 1, 6, 107);
        Due.is("of several the first", x.nearest(0, 0), 1);
        Due.keep(x, 0, 2, 1, 2, 109);
        Due.is("the nearest, folded", x.nearest(0, 0), 2);
        Due.give(x, 0, 2, 1, 6, 103);
        Due.is("for another platform", x.nearest(0, 2), 1);
    }

    private static void refusals() {
        GoldenKeeper x = new GoldenKeeper(0);
        Due.is("keep: row missing", x.keep(0, 0, 0), Due.NULL);
        Due.is("give: row missing", x.give(0, 0, 0), Due.NULL);
        Due.is("keep: row", x.keep(0, 0, 8), Due.BAD);
        Due.is("give: row", x.give(0, 0, -1), Due.BAD);
        int[][] bad = {{-1, 0}, {12, 0}, {0, -1}, {0, 3}, {Integer.MAX_VALUE, Integer.MIN_VALUE}};
        for (int[] b : bad) {
            Due.is("keep", x.keep(b[0], b[1], 0), Due.BAD);
            Due.is("give", x.give(b[0], b[1], 0), Due.BAD);
            Due.is("forget", x.forget(b[0], b[1]), Due.BAD);
            Due.is("state", x.state(b[0], b[1]), Due.BAD);
            Due.is("token", x.token(b[0], b[1], 0, 0), Due.BAD);
            Due.is("cost", x.cost(b[0], b[1]), Due.BAD);
            Due.is("change", x.change(b[0], b[1], 0, 0), Due.BAD);
            Due.is("nearest", x.nearest(b[0], b[1]), Due.BAD);
            Due.is("look", x.look(0, b[0], b[1], 0), Due.BAD);
            Due.is("approve", x.approve(0, b[0], b[1], 0, 0), Due.BAD);
            Due.is("kind", x.kind(b[0], b[1]), Due.BAD);
            Due.is("as", x.as(b[0], b[1], 0), Due.BAD);
            Due.is("ask", x.ask(b[0], b[1], 0), Due.BAD);
        }
        Due.is("states -1", x.states(-1), Due.BAD);
        Due.is("states 5", x.states(5), Due.BAD);
    }

    private AnswersTest() { }
}
