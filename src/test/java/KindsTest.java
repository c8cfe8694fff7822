/** Promises 25 to 28. */
public final class KindsTest {
    public static void main(String[] args) {
        kept();
        folded();
        split();
        wide();
        foldedAndSplit();
        afterApproving();
        refusals();
        Due.end("KindsTest");
    }

    private static void kept() {
        GoldenKeeper x = new GoldenKeeper(7);
        Due.keep(x, 5, 2, 1, 2, 3);
        Due.keep(x, 5, 0, 1, 2, 3);
        Due.keep(x, 6, 0, 1, 2, 4);
        is(x, 5, 2, 0);
        Due.is("SIZE", x.ask(5, 2, 0), 3);
        Due.trace("SIZE of KEPT", x, 10);
        Due.is("MARK", x.ask(5, 2, 1), 5);
        Due.trace("MARK of KEPT", x, 20);
    }

    private static void folded() {
        GoldenKeeper x = new GoldenKeeper(1);
        Due.keep(x, 5, 2, 1, 101, 3);
        is(x, 5, 2, 1, 0);
        Due.is("SIZE", x.ask(5, 2, 0), 4);
        Due.trace("SIZE of FOLDED", x, 11, 10);
        Due.is("MARK", x.ask(5, 2, 1), 105);
        Due.trace("MARK of FOLDED", x, 21, 20);
        Due.keep(x, 6, 0, 1, 101, 3);
        Due.is("alike, plain too: not WIDE", x.kind(5, 2), 1);
        Due.keep(x, 5, 1, 1, 102, 3);
        Due.is("of the same name: not WIDE", x.kind(5, 2), 1);
    }

    private static void split() {
        GoldenKeeper x = new GoldenKeeper(7);
        Due.keep(x, 4, 1, 1, 2, 3);
        Due.keep(x, 4, 2, 1, 2);
        Due.keep(x, 4, 0, 1, 2, 3);
        is(x, 4, 1, 2, 0);
        is(x, 4, 2, 2, 0);
        Due.is("SIZE", x.ask(4, 1, 0), 6);
        Due.trace("SIZE of SPLIT", x, 12, 10);
        Due.is("MARK", x.ask(4, 2, 1), 24);
        Due.trace("MARK of SPLIT", x, 22, 20);
        x.forget(4, 2);
        Due.is("split no more", x.kind(4, 1), 0);
    }

    private static void wide() {
        GoldenKeeper x = new GoldenKeeper(1);
        Due.keep(x, 5, 2, 1, 101, 3);
        Due.keep(x, 6, 0, 1, 100, 3);
        is(x, 5, 2, 3, 1, 0);
        Due.is("its plain one is its folded one", x.kind(6, 0), 0);
        Due.is("SIZE", x.ask(5, 2, 0), 3 + 1 + 105);
        Due.trace("SIZE of WIDE", x, 13, 11, 10, 21, 20);
        Due.is("MARK", x.ask(5, 2, 1), 105);
        Due.trace("MARK of WIDE", x, 21, 20);
        Due.keep(x, 5, 1, 1);
        Due.is("WIDE ahead of SPLIT", x.kind(5, 2), 3);
        x.forget(6, 0);
        Due.is("FOLDED ahead of SPLIT", x.kind(5, 2), 1);
    }

    private static void foldedAndSplit() {
        GoldenKeeper x = new GoldenKeeper(1);
        Due.keep(x, 0, 0, 101);
        Due.keep(x, 0, 1, 5);
        Due.is("told as FOLDED", x.kind(0, 0), 1);
        Due.is("as FOLDED", x.as(0, 0, 1), 1);
        Due.is("as SPLIT: it is told as FOLDED", x.as(0, 0, 2), Due.KIND);
        Due.is("SIZE", x.ask(0, 0, 0), 2);
        Due.is("the other is SPLIT", x.kind(0, 1), 2);
    }

    private static void afterApproving() {
        GoldenKeeper x = new GoldenKeeper(1);
        Due.keep(x, 0, 0, 101, 2);
        Due.give(x, 0, 0, 101, 3);
        Due.is("FOLDED", x.kind(0, 0), 1);
        x.approve(0, 0, 0, 0, 0);
        Due.is("plain is that row then", x.kind(0, 0), 0);
        x.undo();
        Due.is("FOLDED again", x.kind(0, 0), 1);
    }

    private static void refusals() {
        GoldenKeeper x = new GoldenKeeper(0);
        Due.is("kind: none kept", x.kind(0, 0), Due.STATE);
        Due.is("as: none kept", x.as(0, 0, 3), Due.STATE);
        Due.is("ask: none kept", x.ask(0, 0, 1), Due.STATE);
        Due.keep(x, 0, 0, 1);
        Due.is("as: kind 4", x.as(0, 0, 4), Due.BAD);
        Due.is("as: kind -1", x.as(0, 0, -1), Due.BAD);
        Due.is("as: kind, none kept", x.as(1, 0, 4), Due.BAD);
        Due.is("ask: 0", x.ask(0, 0, 0), 1);
        Due.is("ask: 2", x.ask(0, 0, 2), Due.BAD);
        Due.is("ask: -1", x.ask(0, 0, -1), Due.BAD);
        Due.is("ask: name", x.ask(12, 0, 0), Due.BAD);
        Due.trace("BAD leaves the trace", x, 10);
        Due.is("trace: before the first", x.trace(-1), Due.NONE);
        Due.is("trace: far", x.trace(Integer.MAX_VALUE), Due.NONE);
        Due.is("ask: none kept", x.ask(1, 0, 0), Due.STATE);
        Due.trace("STATE empties the trace", x);
    }

    /** Told as the first of the kinds, and taken as each of them, and as no other. */
    private static void is(GoldenKeeper x, int name, int platform, int... kinds) {
        Due.is("kind", x.kind(name, platform), kinds[0]);
        int many = 0;
        while (x.token(name, platform, 0, many) != Due.NONE) {
            many++;
        }
        for (int kind = 0; kind <= 3; kind++) {
            boolean isIt = false;
            for (int k : kinds) {
                isIt |= k == kind;
            }
            Due.is("as " + kind + " of " + kinds[0], x.as(name, platform, kind), isIt ? many : Due.KIND);
        }
    }

    private KindsTest() { }
}
