import java.util.ArrayList;
import java.util.List;
import java.util.function.Supplier;
import java.util.function.ToIntFunction;

/** Boundary cases of KEPT ones that are asked: what Terms 2 and 4 and promises 25 to 30 say, a sentence a method. */
public final class KindsEdgesTest {
    public static void main(String[] args) {
        kindOfNone();
        kindOfEmptyOnes();
        foldedByOneToken();
        splitOfItsName();
        splitByFolded();
        wideOfAnotherName();
        widePlainUnlike();
        wideIsFolded();
        toldAsTheFirstThatFits();
        takenAsEachKind();
        asAtItsEnds();
        asRefusedInTime();
        askAtItsEnds();
        bodiesOfKept();
        bodiesOfFolded();
        bodiesOfSplit();
        bodiesOfWide();
        asksOfTheLeastAndTheMost();
        traceOfNone();
        traceIsOfTheLatestAsk();
        traceAtItsEnds();
        traceAheadOfRefusals();
        countsAtTheirEnds();
        countsOfAll();
        statusAtFirst();
        statusOfCallsWithARow();
        statusOfRefusals();
        statusOfOtherCalls();
        Due.end("KindsEdgesTest");
    }

    // "BAD; STATE: none is KEPT."
    private static void kindOfNone() {
        GoldenKeeper x = new GoldenKeeper(7);
        Due.is("nothing", x.kind(0, 0), Due.STATE);
        Due.give(x, 0, 0, 101);
        Due.is("given", x.kind(0, 0), Due.STATE);
        Due.keep(x, 0, 1, 101);
        Due.is("another PLATFORM's", x.kind(0, 0), Due.STATE);
        x.forget(0, 1);
        Due.is("KEPT no more", x.kind(0, 1), Due.STATE);
    }

    private static void kindOfEmptyOnes() {
        GoldenKeeper x = new GoldenKeeper(7);
        Due.keep(x, 0, 0);
        Due.is("KEPT", x.kind(0, 0), 0);
        Due.keep(x, 0, 2);
        Due.is("both empty", x.kind(0, 0), 0);
        Due.keep(x, 1, 2);
        Due.is("of another NAME", x.kind(0, 0), 0);
        Due.keep(x, 0, 2, 1);
        Due.is("SPLIT", x.kind(0, 0), 2);
        Due.keep(x, 0, 2, 120, 121);
        Due.is("an empty LIST is not nothing", x.kind(0, 0), 2);
        Due.is("SPLIT likewise", x.kind(0, 2), 2);
    }

    // "1 FOLDED one, a KEPT one: its plain one is unlike its FOLDED one"
    private static void foldedByOneToken() {
        int[] row = Due.join(new int[59], Due.of(101));
        for (int rules = 0; rules < 8; rules++) {
            GoldenKeeper x = new GoldenKeeper(rules);
            Due.keep(x, 0, 0, row);
            Due.is("a DATE, the last of sixty", x.kind(0, 0), rules & 1);
            Due.keep(x, 0, 0, 100);
            Due.is("100", x.kind(0, 0), 0);
            Due.keep(x, 0, 0, 110, 111);
            Due.is("IDS by their first comings", x.kind(0, 0), 0);
            Due.keep(x, 0, 0, 111);
            Due.is("an ID", x.kind(0, 0), rules >> 1 & 1);
            Due.keep(x, 0, 0, 120, 1, 2, 121);
            Due.is("a LIST in order", x.kind(0, 0), 0);
            Due.keep(x, 0, 0, 120, 2, 1, 121);
            Due.is("a LIST", x.kind(0, 0), rules >> 2 & 1);
        }
    }

    // "2 SPLIT, a KEPT one: some other PLATFORM's KEPT one of the NAME .."
    private static void splitOfItsName() {
        for (int p = 0; p < 3; p++) {
            for (int q = 0; q < 3; q++) {
                GoldenKeeper x = new GoldenKeeper(0);
                Due.keep(x, 11, p, 1);
                Due.keep(x, 10, q, 2);
                Due.keep(x, 0, q, 2);
                Due.give(x, 11, q, 2);
                Due.is("alone of its NAME", x.kind(11, p), 0);
                Due.keep(x, 11, q, 2);
                Due.is("PLATFORMS " + p + " " + q, x.kind(11, p), p == q ? 0 : 2);
                Due.is("PLATFORMS " + q + " " + p, x.kind(11, q), p == q ? 0 : 2);
            }
        }
        GoldenKeeper x = new GoldenKeeper(0);
        Due.keep(x, 0, 0, 1);
        Due.keep(x, 0, 1, 1);
        Due.keep(x, 0, 2, 1, 1);
        for (int p = 0; p < 3; p++) {
            Due.is("some other is unlike it", x.kind(0, p), 2);
        }
        Due.keep(x, 0, 2, 1);
        Due.is("all alike", x.kind(0, 0), 0);
    }

    // ".., FOLDED, is unlike its own"
    private static void splitByFolded() {
        GoldenKeeper x = new GoldenKeeper(1);
        Due.keep(x, 0, 0, 100);
        Due.keep(x, 0, 1, 105);
        Due.is("FOLDED alike, plain unlike", x.kind(0, 0), 0);
        Due.keep(x, 0, 1, 105, 1);
        Due.is("FOLDED unlike", x.kind(0, 0), 2);
        GoldenKeeper y = new GoldenKeeper(0);
        Due.keep(y, 0, 0, 100);
        Due.keep(y, 0, 1, 105);
        Due.is("without rules", y.kind(0, 0), 2);
    }

    // "3 WIDE, a FOLDED one: a KEPT one of another NAME .."
    private static void wideOfAnotherName() {
        for (int name = 0; name < 12; name++) {
            for (int p = 0; p < 3; p++) {
                GoldenKeeper x = new GoldenKeeper(1);
                Due.keep(x, 5, 1, 101);
                Due.give(x, name, p, 102);
                Due.is("given only", x.kind(5, 1), 1);
                Due.keep(x, name, p, 102);
                Due.is("NAME " + name + ", PLATFORM " + p, x.kind(5, 1), name == 5 ? 1 : 3);
                x.forget(name, p);
                Due.is("forgotten", x.kind(5, 1), name == 5 && p == 1 ? Due.STATE : 1);
            }
        }
    }

    // ".. is FOLDED like it, and plain unlike it"
    private static void widePlainUnlike() {
        GoldenKeeper x = new GoldenKeeper(1);
        Due.keep(x, 0, 0, 101, 1);
        Due.keep(x, 11, 2, 101, 1);
        Due.is("plain alike", x.kind(0, 0), 1);
        Due.keep(x, 11, 2, 102, 2);
        Due.is("FOLDED unlike", x.kind(0, 0), 1);
        Due.keep(x, 11, 2, 102);
        Due.is("the beginning of it", x.kind(0, 0), 1);
        Due.keep(x, 10, 0, 100, 1);
        Due.is("one of several", x.kind(0, 0), 3);
    }

    private static void wideIsFolded() {
        GoldenKeeper x = new GoldenKeeper(1);
        Due.keep(x, 0, 0, 100);
        Due.keep(x, 1, 0, 101);
        Due.is("its plain one is its FOLDED one", x.kind(0, 0), 0);
        Due.is("the other is WIDE", x.kind(1, 0), 3);
        Due.keep(x, 0, 1, 5);
        Due.is("SPLIT", x.kind(0, 0), 2);
    }

    // "It is told as the first that fits of WIDE, FOLDED, SPLIT, KEPT; by this it is asked."
    private static void toldAsTheFirstThatFits() {
        GoldenKeeper x = new GoldenKeeper(1);
        Due.keep(x, 0, 0, 101);
        Due.keep(x, 0, 1, 5);
        Due.keep(x, 1, 0, 102);
        Due.is("WIDE, FOLDED and SPLIT", x.kind(0, 0), 3);
        Due.is("is asked as WIDE", x.ask(0, 0, 0), 1 + 1 + 100);
        Due.is("is not taken as SPLIT", x.as(0, 0, 2), Due.KIND);
        x.forget(1, 0);
        Due.is("FOLDED and SPLIT", x.kind(0, 0), 1);
        Due.is("is asked as FOLDED", x.ask(0, 0, 0), 2);
        Due.is("MARK likewise", x.ask(0, 0, 1), 100);
        Due.is("is not taken as SPLIT", x.as(0, 0, 2), Due.KIND);
        x.forget(0, 1);
        Due.is("FOLDED", x.kind(0, 0), 1);
        Due.keep(x, 0, 0, 5);
        Due.is("KEPT", x.kind(0, 0), 0);
    }

    // "A KEPT one is taken as one of a KIND (0 .. 3)": WIDE ones are FOLDED ones, and all are KEPT ones
    private static void takenAsEachKind() {
        boolean[][] isIt = {{true, false, false, false}, {true, true, false, false}, {true, false, true, false},
            {true, true, false, true}};
        for (int told = 0; told < 4; told++) {
            GoldenKeeper x = ofKind(told, 1, 2);
            Due.is("told", x.kind(1, 2), told);
            for (int kind = 0; kind < 4; kind++) {
                Due.is(told + " as " + kind, x.as(1, 2, kind), isIt[told][kind] ? 3 : Due.KIND);
                Due.is("status of " + told + " as " + kind, x.status(), isIt[told][kind] ? 0 : 3);
            }
        }
    }

    /** A keeper with a KEPT one of three TOKENS that is told as a KIND. */
    private static GoldenKeeper ofKind(int kind, int name, int platform) {
        GoldenKeeper x = new GoldenKeeper(1);
        Due.keep(x, name, platform, kind % 2 == 1 ? 101 : 100, 7, 8);
        if (kind == 2) {
            Due.keep(x, name, (platform + 1) % 3, 100, 7);
        }
        if (kind == 3) {
            Due.keep(x, (name + 1) % 12, platform, 100, 7, 8);
        }
        return x;
    }

    private static void asAtItsEnds() {
        for (int told = 0; told < 4; told++) {
            GoldenKeeper x = ofKind(told, 11, 0);
            int own = told;
            Due.ends("as", 0, 3, kind -> x.as(11, 0, kind),
                kind -> kind == 0 || kind == own || kind == 1 && own == 3 ? 3 : Due.KIND);
        }
        GoldenKeeper x = new GoldenKeeper(7);
        Due.keep(x, 0, 0);
        Due.is("an empty one", x.as(0, 0, 0), 0);
        Due.keep(x, 0, 0, new int[60]);
        Due.is("a full one", x.as(0, 0, 0), 60);
    }

    // "BAD: KIND, too; STATE; KIND."
    private static void asRefusedInTime() {
        GoldenKeeper x = new GoldenKeeper(0);
        for (int kind = 0; kind < 4; kind++) {
            Due.is("STATE ahead of KIND", x.as(0, 0, kind), Due.STATE);
        }
        Due.is("KIND 4 ahead of STATE", x.as(0, 0, 4), Due.BAD);
        Due.is("KIND -1 ahead of STATE", x.as(0, 0, -1), Due.BAD);
        Due.keep(x, 0, 0, 1);
        Due.is("found", x.as(0, 0, 3), Due.KIND);
        Due.is("NAME ahead of KIND", x.as(12, 0, 3), Due.BAD);
        Due.is("BAD leaves status", x.status(), 3);
        Due.is("STATE", x.as(0, 1, 0), Due.STATE);
        Due.is("STATE leaves status", x.status(), 3);
    }

    // "An ASK (0, 1) of a KEPT one. BAD; STATE."
    private static void askAtItsEnds() {
        GoldenKeeper x = new GoldenKeeper(0);
        Due.keep(x, 5, 0, 1, 2);
        Due.ends("ask", 0, 1, what -> x.ask(5, 0, what), what -> what == 0 ? 2 : 5);
        Due.ends("ask of none KEPT", 0, 1, what -> x.ask(5, 1, what), what -> Due.STATE);
    }

    // "10 lent to all KEPT ones: how many TOKENS, FOLDED"; "20 lent to all: the NAME"
    private static void bodiesOfKept() {
        GoldenKeeper x = ofKind(0, 11, 2);
        Due.is("SIZE", x.ask(11, 2, 0), 3);
        Due.trace("SIZE", x, 10);
        Due.is("MARK", x.ask(11, 2, 1), 11);
        Due.trace("MARK", x, 20);
    }

    // "11 of FOLDED ones: what 10 gives, and 1"; "21 of FOLDED ones: what 20 gives, and 100"
    private static void bodiesOfFolded() {
        GoldenKeeper x = ofKind(1, 11, 2);
        Due.is("SIZE", x.ask(11, 2, 0), 4);
        Due.trace("SIZE", x, 11, 10);
        Due.is("MARK", x.ask(11, 2, 1), 111);
        Due.trace("MARK", x, 21, 20);
    }

    // "12 of SPLIT ones: what 10 gives, twice"; "22 of SPLIT ones: what 20 gives, and the PLATFORM, 10 times"
    private static void bodiesOfSplit() {
        for (int p = 0; p < 3; p++) {
            GoldenKeeper x = ofKind(2, 11, p);
            Due.is("SIZE", x.ask(11, p, 0), 6);
            Due.trace("SIZE", x, 12, 10);
            Due.is("MARK", x.ask(11, p, 1), 11 + 10 * p);
            Due.trace("MARK", x, 22, 20);
        }
    }

    // "13 of WIDE ones: what 11 gives, and MARK"; "else that of the nearest KIND that it is, too"; "MARK within another
    // one is asked of the same anew"
    private static void bodiesOfWide() {
        GoldenKeeper x = ofKind(3, 11, 2);
        Due.is("SIZE", x.ask(11, 2, 0), 3 + 1 + 11 + 100);
        Due.trace("SIZE", x, 13, 11, 10, 21, 20);
        Due.is("MARK", x.ask(11, 2, 1), 111);
        Due.trace("MARK", x, 21, 20);
    }

    private static void asksOfTheLeastAndTheMost() {
        GoldenKeeper x = new GoldenKeeper(1);
        Due.keep(x, 0, 0);
        Due.is("SIZE of an empty one", x.ask(0, 0, 0), 0);
        Due.is("MARK of NAME 0", x.ask(0, 0, 1), 0);
        Due.keep(x, 0, 1, new int[60]);
        Due.is("SIZE of an empty SPLIT one", x.ask(0, 0, 0), 0);
        Due.is("SIZE of a full SPLIT one", x.ask(0, 1, 0), 120);
        int[] full = new int[60];
        full[59] = 109;
        Due.keep(x, 11, 2, full);
        Due.is("SIZE of a full FOLDED one", x.ask(11, 2, 0), 61);
        full[59] = 108;
        Due.keep(x, 10, 2, full);
        Due.is("SIZE of a full WIDE one", x.ask(11, 2, 0), 60 + 1 + 11 + 100);
    }

    // "Number i of THE TRACE; NONE."
    private static void traceOfNone() {
        GoldenKeeper x = new GoldenKeeper(0);
        for (int i : Due.of(0, 1, 15, 16, 17, -1, Integer.MIN_VALUE, Integer.MAX_VALUE)) {
            Due.is("trace " + i, x.trace(i), Due.NONE);
        }
    }

    // "THE TRACE is empty ahead of it"
    private static void traceIsOfTheLatestAsk() {
        GoldenKeeper x = ofKind(3, 0, 0);
        for (int k = 0; k < 20; k++) {
            x.ask(0, 0, 0);
        }
        Due.trace("of the latest of twenty", x, 13, 11, 10, 21, 20);
        x.ask(1, 0, 1);
        Due.trace("a shorter one", x, 20);
        x.kind(0, 0);
        x.as(0, 0, 3);
        x.as(0, 0, 2);
        x.begin();
        x.forget(1, 0);
        Due.trace("no other call changes it", x, 20);
    }

    // "(the first 16)": the longest that an ask can leave has five, so the places from there to 16 and beyond are empty
    private static void traceAtItsEnds() {
        GoldenKeeper x = ofKind(3, 0, 0);
        x.ask(0, 0, 0);
        Due.is("the last", x.trace(4), 20);
        for (int i = 5; i <= 17; i++) {
            Due.is("trace " + i, x.trace(i), Due.NONE);
        }
        for (int i : Due.of(-1, Integer.MIN_VALUE, Integer.MAX_VALUE)) {
            Due.is("trace " + i, x.trace(i), Due.NONE);
        }
    }

    // ".. if it is not BAD"
    private static void traceAheadOfRefusals() {
        GoldenKeeper x = ofKind(1, 0, 0);
        x.ask(0, 0, 0);
        for (int what : Due.of(-1, 2)) {
            Due.is("BAD", x.ask(0, 0, what), Due.BAD);
            Due.is("BAD ahead of STATE", x.ask(5, 0, what), Due.BAD);
        }
        Due.is("BAD", x.ask(12, 0, 0), Due.BAD);
        Due.is("BAD", x.ask(0, 3, 0), Due.BAD);
        Due.trace("BAD leaves it", x, 11, 10);
        Due.is("STATE", x.ask(5, 0, 0), Due.STATE);
        Due.trace("STATE empties it", x);
    }

    // "How many: 0 ROWS, .. 6 RULES. BAD."
    private static void countsAtTheirEnds() {
        GoldenKeeper x = new GoldenKeeper(6);
        Due.ends("count of a new one", 0, 6, what -> x.count(what), what -> what == 6 ? 6 : 0);
    }

    private static void countsOfAll() {
        GoldenKeeper x = Due.allChanged();
        for (int row = 0; row < 8; row++) {
            x.row(row, 0, 0);
        }
        x.approve(0, 0, 0, 0, 0);
        x.approve(0, 11, 2, 0, 0);
        x.undo();
        int[] due = {8, 36, 36, 2, 1, 35, 0};
        for (int what = 0; what <= 6; what++) {
            Due.is("count " + what, x.count(what), due[what]);
        }
    }

    // "0: it had none, or there was none"
    private static void statusAtFirst() {
        GoldenKeeper x = new GoldenKeeper(0);
        Due.is("of a new object", x.status(), 0);
        x.row(8, 0, 0);
        x.as(0, 0, 0);
        Due.is("BAD and STATE only", x.status(), 0);
    }

    // "Of the latest call with a ROW, or as(), .. : the number of its FINDING"
    private static void statusOfCallsWithARow() {
        statusAfter("row, SIZE", 4, x -> x.row(0, 2, -1));
        statusAfter("set, NULL", 1, x -> x.set(7, 0, 0));
        statusAfter("set, PLACE", 2, x -> x.set(0, 1, 0));
        statusAfter("copy, NULL", 1, x -> x.copy(0, 0, 7, 0, 0));
        statusAfter("copy, STORE", 5, x -> x.copy(0, 0, 1, 0, 0));
        statusAfter("copy, PLACE", 2, x -> x.copy(0, 0, 0, 0, 2));
        statusAfter("drop, NULL", 1, x -> x.drop(7));
        statusAfter("fold, NULL", 1, x -> x.fold(7, 0));
        statusAfter("keep, NULL", 1, x -> x.keep(0, 0, 7));
        statusAfter("give, NULL", 1, x -> x.give(0, 0, 7));
        statusAfter("as, KIND", 3, x -> x.as(0, 0, 1));
        statusAfter("row", 0, x -> x.row(0, 2, 0));
        statusAfter("set", 0, x -> x.set(0, 0, 0));
        statusAfter("copy", 0, x -> x.copy(0, 0, 0, 0, 0));
        statusAfter("drop", 0, x -> x.drop(0));
        statusAfter("fold", 0, x -> x.fold(0, 0));
        statusAfter("fold, NONE", 0, x -> x.fold(0, 1));
        statusAfter("keep", 0, x -> x.keep(0, 0, 0));
        statusAfter("give", 0, x -> x.give(0, 0, 0));
        statusAfter("as", 0, x -> x.as(0, 0, 0));
    }

    /** The status after a call, whatever it was ahead of it; ROWS 0 and 2 are ints, 1 is of shorts, 2 is no ANSWER. */
    private static void statusAfter(String what, int due, ToIntFunction<GoldenKeeper> call) {
        for (Supplier<GoldenKeeper> each : keepersOfEachStatus()) {
            GoldenKeeper x = each.get();
            call.applyAsInt(x);
            Due.is("status after " + what, x.status(), due);
        }
    }

    private static List<Supplier<GoldenKeeper>> keepersOfEachStatus() {
        List<Supplier<GoldenKeeper>> all = new ArrayList<>();
        all.add(() -> after(x -> x.as(0, 0, 0)));
        all.add(() -> after(x -> x.drop(7)));
        all.add(() -> after(x -> x.set(0, -1, 0)));
        all.add(() -> after(x -> x.as(0, 0, 3)));
        all.add(() -> after(x -> x.row(0, 0, -1)));
        all.add(() -> after(x -> x.copy(0, 0, 1, 0, 0)));
        return all;
    }

    private static GoldenKeeper after(ToIntFunction<GoldenKeeper> call) {
        GoldenKeeper x = new GoldenKeeper(0);
        Due.keep(x, 0, 0, 1);
        Due.keep(x, 1, 0, 1);
        Due.give(x, 1, 0, 120, 1, 121);
        Due.give(x, 2, 0, 1);
        x.drop(7);
        x.row(0, 2, 1);
        x.row(1, 1, 1);
        x.row(2, 2, 1);
        x.set(2, 0, 120);
        call.applyAsInt(x);
        return x;
    }

    // ".. that was not BAD, STATE, FULL"
    private static void statusOfRefusals() {
        statusStays("row, BAD", Due.BAD, x -> x.row(0, 0, 61));
        statusStays("set, BAD", Due.BAD, x -> x.set(8, 0, 0));
        statusStays("copy, BAD", Due.BAD, x -> x.copy(0, 0, 8, 0, 0));
        statusStays("drop, BAD", Due.BAD, x -> x.drop(-1));
        statusStays("fold, BAD", Due.BAD, x -> x.fold(8, 0));
        statusStays("fold, STATE", Due.STATE, x -> x.fold(2, 0));
        statusStays("keep, BAD", Due.BAD, x -> x.keep(12, 0, 0));
        statusStays("keep, STATE", Due.STATE, x -> x.keep(0, 0, 2));
        statusStays("give, BAD", Due.BAD, x -> x.give(0, 3, 0));
        statusStays("give, STATE", Due.STATE, x -> x.give(0, 0, 2));
        statusStays("as, BAD", Due.BAD, x -> x.as(0, 0, 4));
        statusStays("as, STATE", Due.STATE, x -> x.as(5, 0, 0));
    }

    private static void statusStays(String what, int due, ToIntFunction<GoldenKeeper> call) {
        int status = 0;
        for (Supplier<GoldenKeeper> each : keepersOfEachStatus()) {
            GoldenKeeper x = each.get();
            Due.is(what, call.applyAsInt(x), due);
            Due.is("status after " + what, x.status(), status);
            Due.is("status again", x.status(), status);
            status++;
        }
    }

    private static void statusOfOtherCalls() {
        statusStays("begin", 2, x -> x.begin());
        statusStays("forget", 1, x -> x.forget(0, 0));
        statusStays("forget, 0", 0, x -> x.forget(5, 0));
        statusStays("forget, BAD", Due.BAD, x -> x.forget(12, 0));
        statusStays("state", 3, x -> x.state(1, 0));
        statusStays("states", 1, x -> x.states(4));
        statusStays("token", 1, x -> x.token(0, 0, 0, 0));
        statusStays("token, STATE", Due.STATE, x -> x.token(0, 0, 2, 0));
        statusStays("cost", 2, x -> x.cost(1, 0));
        statusStays("change", 0, x -> x.change(1, 0, 0, 0));
        statusStays("nearest, NONE", Due.NONE, x -> x.nearest(1, 0));
        statusStays("nearest, STATE", Due.STATE, x -> x.nearest(0, 0));
        statusStays("groups", 2, x -> x.groups());
        statusStays("group", 1, x -> x.group(0, 0));
        statusStays("shape", 120, x -> x.shape(0, 1, 0));
        statusStays("look", 1, x -> x.look(0, 1, 0, 0));
        statusStays("approve, STATE", Due.STATE, x -> x.approve(0, 1, 0, 0, 0));
        statusStays("approveAll, STATE", Due.STATE, x -> x.approveAll(0, 0, 0));
        statusStays("undo", Due.NONE, x -> x.undo());
        statusStays("entry", Due.NONE, x -> x.entry(0, 0));
        statusStays("kind", 0, x -> x.kind(0, 0));
        statusStays("ask", 1, x -> x.ask(0, 0, 0));
        statusStays("ask, STATE", Due.STATE, x -> x.ask(5, 0, 0));
        statusStays("trace", Due.NONE, x -> x.trace(0));
        statusStays("count", 3, x -> x.count(0));
    }

    private KindsEdgesTest() { }
}
