/** Promises 17 to 24. */
public final class ApprovingTest {
    public static void main(String[] args) {
        groups();
        look();
        approve();
        approveNoAnswer();
        approveAll();
        approveAllUnseen();
        approveAllRefused();
        undo();
        bookIsFull();
        Due.end("ApprovingTest");
    }

    private static void groups() {
        GoldenKeeper x = new GoldenKeeper(0);
        Due.is("none", x.groups(), 0);
        Due.keep(x, 1, 2, 1, 2, 3, 1);
        Due.give(x, 1, 2, 5, 2, 3, 5);
        Due.keep(x, 1, 0, 7, 2);
        Due.give(x, 1, 0, 2, 8);
        Due.keep(x, 0, 1, 2, 2);
        Due.give(x, 0, 1, 2, 2, 8);
        Due.is("groups", x.groups(), 3);
        group(x, 0, 2, 0, 1, 0, 1, 0);
        group(x, 1, 1, 1, 0, 1, 0, 0);
        group(x, 2, 2, 1, 1, 1, 2, 0);
        Due.is("group of", x.change(1, 0, 1, 4), 0);
        Due.is("group of", x.change(1, 2, 1, 4), 2);
        Due.is("goes", x.shape(2, 0, 0), 1);
        Due.is("comes", x.shape(2, 1, 0), 5);
        Due.is("not so many", x.shape(2, 0, 1), Due.NONE);
        Due.is("before the first", x.shape(2, 1, -1), Due.NONE);
        Due.is("side 2", x.shape(2, 2, 0), Due.BAD);
        Due.is("side -1", x.shape(2, -1, 0), Due.BAD);
        Due.is("shape of 3", x.shape(3, 0, 0), Due.BAD);
        Due.is("group 3", x.group(3, 0), Due.BAD);
        Due.is("group -1", x.group(-1, 0), Due.BAD);
        Due.is("what 6", x.group(0, 6), Due.BAD);
        Due.is("what -1", x.group(0, -1), Due.BAD);
        Due.give(x, 0, 1, 2, 2);
        Due.is("numbered anew", x.change(1, 0, 1, 4), 1);
        Due.is("changes of all", x.count(5), 4);
    }

    private static void group(GoldenKeeper x, int group, int... due) {
        for (int what = 0; what < due.length; what++) {
            Due.is("group " + group + " " + what, x.group(group, what), due[what]);
        }
    }

    private static void look() {
        GoldenKeeper x = new GoldenKeeper(0);
        Due.keep(x, 0, 0, 1, 2, 3, 4, 5);
        Due.give(x, 0, 0, 1, 9, 3, 8, 5);
        Due.is("look", x.look(0, 0, 0, 1), 1);
        Due.is("again", x.look(0, 0, 0, 1), 1);
        Due.is("another", x.look(0, 0, 0, 0), 2);
        Due.is("another hand", x.look(3, 0, 0, 0), 1);
        Due.is("hand 4", x.look(4, 0, 0, 0), Due.BAD);
        Due.is("hand -1", x.look(-1, 0, 0, 0), Due.BAD);
        Due.is("no such change", x.look(0, 0, 0, 2), Due.BAD);
        Due.is("no such change", x.look(0, 0, 0, -1), Due.BAD);
        Due.is("not changed", x.look(0, 0, 1, 0), Due.BAD);
        Due.keep(x, 0, 0, 1, 9, 3, 8);
        Due.is("such as are none any more", x.look(0, 0, 0, 0), 3);
        Due.keep(x, 0, 0, 7, 7, 1, 9, 3, 4, 5);
        Due.is("known by the given one", x.look(0, 0, 0, 1), 3);
        Due.is("a change that is new", x.look(0, 0, 0, 0), 4);
        Due.give(x, 0, 0, 1, 9, 3, 8, 5);
        Due.is("given anew", x.look(0, 0, 0, 0), 1);
        x.begin();
        Due.give(x, 0, 0, 1, 9, 3, 8, 5);
        Due.is("a new run", x.look(0, 0, 0, 1), 1);
        lookKnownByItsLength();
    }

    private static void lookKnownByItsLength() {
        GoldenKeeper x = new GoldenKeeper(0);
        Due.give(x, 0, 0, 1, 2, 3, 4);
        Due.keep(x, 0, 0, 1, 3, 4);
        Due.is("one comes at 1", x.look(1, 0, 0, 0), 1);
        Due.keep(x, 0, 0, 1, 4);
        Due.is("two come at 1", x.look(1, 0, 0, 0), 2);
        Due.keep(x, 0, 0, 1, 2, 4);
        Due.is("one comes at 2", x.look(1, 0, 0, 0), 3);
        Due.keep(x, 0, 0, 1, 7, 7, 3, 4);
        Due.is("one comes at 1, others go there", x.look(1, 0, 0, 0), 3);
        Due.keep(x, 0, 0, 1, 7, 2, 3, 4);
        Due.is("none comes at 1", x.look(1, 0, 0, 0), 4);
        Due.is("another hand", x.look(2, 0, 0, 0), 1);
    }

    private static void approve() {
        GoldenKeeper x = new GoldenKeeper(7);
        Due.keep(x, 0, 0, 120, 3, 1, 121, 105, 117);
        Due.give(x, 0, 0, 120, 9, 1, 121, 106, 118, 4);
        Due.is("hand 4", x.approve(4, 0, 0, 0, 0), Due.BAD);
        Due.is("doubt 2", x.approve(0, 0, 0, 0, 2), Due.BAD);
        Due.is("doubt -1", x.approve(0, 0, 0, 0, -1), Due.BAD);
        Due.is("no such change", x.approve(0, 0, 0, 2, 0), Due.BAD);
        Due.is("no such change", x.approve(0, 0, 0, -1, 0), Due.BAD);
        Due.is("approve", x.approve(2, 0, 0, 0, 1), 0);
        Due.entry(x, 0, 2, 1, 1, 0, 0, 1);
        Due.tokens("folded", x, 0, 0, 0, 120, 1, 9, 121, 100, 110);
        Due.tokens("plain", x, 0, 0, 1, 120, 1, 9, 121, 100, 110);
        Due.is("still CHANGED", x.state(0, 0), 3);
        Due.is("cost", x.cost(0, 0), 1);
        Due.is("it was looked at, too", x.look(2, 0, 0, 0), 2);
        Due.is("approve the rest", x.approve(1, 0, 0, 0, 0), 1);
        Due.is("SAME", x.state(0, 0), 2);
        Due.entry(x, 1, 1, 0, 1, 0, 0, 1);
        Due.is("entries", x.count(3), 2);
        Due.is("no such entry", x.entry(2, 0), Due.NONE);
        Due.is("no such entry", x.entry(-1, 0), Due.NONE);
        Due.is("what 6", x.entry(0, 6), Due.BAD);
        Due.is("what -1", x.entry(9, -1), Due.BAD);
        notFoldedAnew();
    }

    private static void notFoldedAnew() {
        GoldenKeeper x = new GoldenKeeper(2);
        Due.keep(x, 0, 0, 110, 111, 112);
        Due.give(x, 0, 0, 110, 5, 6);
        Due.keep(x, 0, 0, 110, 111, 112, 5, 6);
        x.approve(0, 0, 0, 0, 0);
        Due.is("SAME", x.state(0, 0), 2);
        Due.keep(x, 1, 0, 115, 116, 117);
        Due.give(x, 1, 0, 7, 115, 115, 8);
        Due.change(x, 1, 0, 0, 0, 0, 0, 1);
        Due.change(x, 1, 0, 1, 1, 2, 2, 2);
        x.approve(0, 1, 0, 0, 0);
        Due.tokens("done, not folded anew", x, 1, 0, 0, 7, 110, 111, 112);
        Due.keep(x, 2, 0, 115, 9, 116);
        Due.give(x, 2, 0, 9, 116);
        Due.change(x, 2, 0, 0, 0, 1, 0, 0);
        x.approve(0, 2, 0, 0, 0);
        Due.tokens("its first id is no 110", x, 2, 0, 0, 9, 111);
        Due.tokens("plain likewise", x, 2, 0, 1, 9, 111);
        Due.is("KEPT", x.kind(2, 0), 0);
    }

    private static void approveNoAnswer() {
        GoldenKeeper x = new GoldenKeeper(0);
        Due.keep(x, 0, 0, 1, 2);
        Due.give(x, 0, 0, 120, 1, 121, 2);
        Due.is("opens alone", x.approve(0, 0, 0, 0, 0), Due.STATE);
        Due.is("closes alone", x.approve(0, 0, 0, 1, 0), Due.STATE);
        Due.is("refused changes nothing", x.count(3), 0);
        Due.is("not looked at", x.look(0, 0, 0, 0), 1);
        int[] kept = new int[60];
        int[] given = new int[60];
        for (int i = 0; i < 60; i++) {
            kept[i] = i;
            given[i] = i - 1;
        }
        given[0] = 99;
        Due.keep(x, 1, 0, kept);
        Due.give(x, 1, 0, given);
        Due.change(x, 1, 0, 0, 0, 0, 0, 1);
        Due.change(x, 1, 0, 1, 59, 1, 60, 0);
        Due.is("sixty-one", x.approve(0, 1, 0, 0, 0), Due.STATE);
        Due.is("fifty-nine", x.approve(0, 1, 0, 1, 0), 0);
        Due.is("sixty", x.approve(0, 1, 0, 0, 0), 1);
        Due.tokens("done", x, 1, 0, 0, given);
        for (int i = 0; i < 60; i++) {
            given[i] = i < 30 ? 99 - i : i - 30;
        }
        Due.keep(x, 2, 0, kept);
        Due.give(x, 2, 0, given);
        Due.change(x, 2, 0, 0, 0, 0, 0, 30);
        Due.is("ninety", x.approve(0, 2, 0, 0, 0), Due.STATE);
        Due.is("ninety", x.approveAll(0, x.change(2, 0, 0, 4), 0), Due.STATE);
    }

    private static void approveAll() {
        GoldenKeeper x = new GoldenKeeper(0);
        Due.keep(x, 0, 0, 1, 5, 1, 6, 1);
        Due.give(x, 0, 0, 2, 3, 5, 2, 3, 6, 2);
        Due.keep(x, 11, 2, 1, 8);
        Due.give(x, 11, 2, 2, 3, 8);
        Due.keep(x, 11, 1, 1, 8);
        Due.is("groups", x.groups(), 2);
        Due.is("hand 4", x.approveAll(4, 0, 0), Due.BAD);
        Due.is("hand -1", x.approveAll(-1, 0, 0), Due.BAD);
        Due.is("group 2", x.approveAll(0, 2, 0), Due.BAD);
        Due.is("group -1", x.approveAll(0, -1, 0), Due.BAD);
        Due.is("doubt 2", x.approveAll(0, 0, 2), Due.BAD);
        x.look(1, 0, 0, 1);
        x.look(0, 0, 0, 0);
        Due.is("approveAll", x.approveAll(1, 0, 1), 0);
        Due.entry(x, 0, 1, 1, 3, 2, 0, 2);
        Due.tokens("two at once", x, 0, 0, 0, 2, 3, 5, 2, 3, 6, 1);
        Due.tokens("plain, too", x, 0, 0, 1, 2, 3, 5, 2, 3, 6, 1);
        Due.tokens("another name", x, 11, 2, 0, 2, 3, 8);
        Due.tokens("not given", x, 11, 1, 0, 1, 8);
        Due.is("the other group is left", x.groups(), 1);
        Due.is("undo", x.undo(), 0);
        Due.tokens("as it was", x, 0, 0, 0, 1, 5, 1, 6, 1);
        Due.tokens("as it was", x, 11, 2, 0, 1, 8);
    }

    private static void approveAllUnseen() {
        GoldenKeeper x = new GoldenKeeper(0);
        Due.keep(x, 0, 0, 1, 5, 1);
        Due.give(x, 0, 0, 2, 5, 2);
        x.approveAll(0, 0, 0);
        Due.entry(x, 0, 0, 0, 2, 2, 0, 1);
        x.undo();
        x.approveAll(0, 0, 0);
        Due.entry(x, 1, 0, 0, 2, 2, 0, 1);
        x.undo();
        x.approve(0, 0, 0, 1, 0);
        x.undo();
        x.approveAll(0, 0, 0);
        Due.entry(x, 3, 0, 0, 2, 1, 0, 1);
        x.undo();
        x.approveAll(2, 0, 0);
        Due.entry(x, 4, 2, 0, 2, 2, 0, 1);
        x.undo();
        Due.give(x, 0, 0, 2, 5, 2);
        x.approveAll(0, 0, 0);
        Due.entry(x, 5, 0, 0, 2, 2, 0, 1);
    }

    private static void approveAllRefused() {
        GoldenKeeper x = new GoldenKeeper(0);
        Due.keep(x, 0, 0, 1, 2);
        Due.give(x, 0, 0, 1, 120, 2, 121);
        Due.keep(x, 1, 0, 120, 2, 121);
        Due.give(x, 1, 0, 120, 120, 2, 121, 121);
        Due.is("groups", x.groups(), 2);
        Due.is("one would be none", x.approveAll(0, 0, 0), Due.STATE);
        Due.tokens("no other is changed", x, 1, 0, 0, 120, 2, 121);
        Due.is("no entry", x.count(3), 0);
        Due.keep(x, 2, 0, 3, 4);
        Due.give(x, 2, 0, 3, 120, 121, 4, 120, 121);
        Due.is("two in one", x.approveAll(0, x.change(2, 0, 0, 4), 0), 0);
        Due.is("SAME", x.state(2, 0), 2);
    }

    private static void undo() {
        GoldenKeeper x = new GoldenKeeper(2);
        Due.keep(x, 0, 0, 115, 1, 5);
        Due.give(x, 0, 0, 116, 2, 6, 5, 7);
        x.approve(0, 0, 0, 0, 0);
        x.approve(0, 0, 0, 0, 0);
        Due.is("SAME", x.state(0, 0), 2);
        Due.is("undo the latest", x.undo(), 1);
        Due.entry(x, 1, 0, 0, 1, 0, 1, 1);
        Due.entry(x, 0, 0, 0, 1, 0, 0, 1);
        Due.is("CHANGED", x.state(0, 0), 3);
        Due.is("not undone", x.count(4), 1);
        Due.is("entries", x.count(3), 2);
        Due.is("a new one", x.approve(3, 0, 0, 0, 1), 2);
        Due.is("undo that", x.undo(), 2);
        x.forget(0, 0);
        Due.is("then the one ahead", x.undo(), 0);
        Due.tokens("kept again, folded", x, 0, 0, 0, 110, 1, 5);
        Due.tokens("kept again, plain", x, 0, 0, 1, 115, 1, 5);
        Due.is("none is left", x.undo(), Due.NONE);
        Due.is("not undone", x.count(4), 0);
        Due.is("looks stay", x.look(0, 0, 0, 0), 2);
    }

    private static void bookIsFull() {
        GoldenKeeper x = new GoldenKeeper(0);
        Due.keep(x, 0, 0, 1);
        Due.give(x, 0, 0, 1, 2);
        Due.keep(x, 1, 0, 1);
        Due.give(x, 1, 0, 1, 120, 1, 121);
        Due.keep(x, 1, 0, 1, 1);
        for (int e = 0; e < 100; e++) {
            Due.is("entry " + e, e % 2 == 0 ? x.approve(0, 0, 0, 0, 0) : x.approveAll(0, 0, 0), e);
            if (e < 99) {
                Due.is("undo " + e, x.undo(), e);
            }
        }
        x.undo();
        Due.is("full, one", x.approve(0, 0, 0, 0, 0), Due.FULL);
        Due.is("full, all", x.approveAll(1, 0, 0), Due.FULL);
        Due.is("BAD ahead of FULL", x.approve(0, 0, 0, 1, 0), Due.BAD);
        Due.is("STATE ahead of FULL", x.approve(0, 1, 0, 0, 0), Due.STATE);
        Due.is("STATE ahead of FULL", x.approveAll(0, 1, 0), Due.STATE);
        Due.is("refused changes nothing", x.state(0, 0), 3);
        Due.is("refused is not looked at", x.approve(1, 0, 0, 0, 0), Due.FULL);
        Due.is("entries", x.count(3), 100);
    }

    private ApprovingTest() { }
}
