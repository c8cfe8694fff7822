import java.util.ArrayList;
import java.util.HashMap;
import java.util.List;
import java.util.Map;
import java.util.Random;

/** All promises: the same random runs of at most 512 calls on the class and on PlainKeeper. */
public final class ModelTest {
    private static final int RUNS = 3000;
    private static final int CALLS = 512;
    private static final String[] NAMES = {"row", "set", "copy", "drop", "fold", "keep", "give", "begin", "forget",
        "state", "states", "token", "cost", "change", "nearest", "groups", "group", "shape", "look", "approve",
        "approveAll", "undo", "entry", "kind", "as", "ask", "trace", "count", "status"};
    // the refusals and FINDINGS, each of which the runs have to come to often
    private static final int[] REFUSALS = {Due.NONE, Due.BAD, Due.STATE, Due.FULL, Due.NULL, Due.PLACE, Due.KIND,
        Due.SIZE, Due.STORE};
    // how often each call comes, beside those that fill rows
    private static final int[] WEIGHTS = {2, 4, 3, 1, 4, 20, 26, 1, 1,
        4, 2, 8, 4, 14, 5, 3, 8, 6, 12, 14,
        12, 8, 8, 5, 8, 8, 4, 4, 4};

    private static final int ROW = 0;
    private static final int SET = 1;
    private static final int KEEP = 5;
    private static final int GIVE = 6;
    private static final int APPROVE = 19;
    private static final Map<Integer, Integer> ANSWERS = new HashMap<>();

    private final Random random;
    private final GoldenKeeper x;
    private final PlainKeeper y;
    private final List<String> calls = new ArrayList<>();
    private final int names;
    private final int words;
    private final int longest;
    private final boolean busy;

    private ModelTest(long seed) {
        random = new Random(seed);
        int rules = random.nextInt(5) == 0 ? random.nextInt() : random.nextInt(8);
        x = new GoldenKeeper(rules);
        y = new PlainKeeper(rules);
        calls.add("new GoldenKeeper(" + rules + ")");
        busy = random.nextInt(6) == 0;
        names = busy ? 1 : random.nextInt(3) == 0 ? 12 : 1 + random.nextInt(3);
        words = 1 + random.nextInt(5);
        longest = busy ? 4 : random.nextInt(6) == 0 ? 60 : 1 + random.nextInt(14);
    }

    public static void main(String[] args) {
        int[] seen = new int[NAMES.length];
        for (long seed = 0; seed < RUNS; seed++) {
            new ModelTest(seed).run(seed, seen);
        }
        for (int c = 0; c < NAMES.length; c++) {
            Due.isTrue(NAMES[c] + " was called", seen[c] > 0);
        }
        for (int refusal : REFUSALS) {
            Due.isTrue(refusal + " was answered five hundred times", ANSWERS.getOrDefault(refusal, 0) >= 500);
        }
        Due.end("ModelTest");
    }

    private void run(long seed, int[] seen) {
        if (busy && !bringChanges()) {
            tell(seed);
            return;
        }
        while (calls.size() <= CALLS) {
            if (random.nextInt(busy ? 60 : 5) == 0) {
                if (!fillRow()) {
                    tell(seed);
                    return;
                }
                continue;
            }
            int c = pick();
            seen[c]++;
            if (!same(c, arguments(c))) {
                tell(seed);
                return;
            }
        }
    }

    private void tell(long seed) {
        Due.is("seed " + seed + ": " + String.join("; ", calls), 1, 0);
    }

    private int pick() {
        // so that THE BOOK comes to be full
        if (busy && random.nextInt(8) > 0) {
            return APPROVE + random.nextInt(3);
        }
        int sum = 0;
        for (int w : WEIGHTS) {
            sum += w;
        }
        int left = random.nextInt(sum);
        int c = 0;
        while (left >= WEIGHTS[c]) {
            left -= WEIGHTS[c];
            c++;
        }
        return c;
    }

    /** One TOKEN comes on each PLATFORM of NAME 0. */
    private boolean bringChanges() {
        boolean held = same(ROW, 0, 1, 2) && same(ROW, 1, 1, 3);
        for (int platform = 0; platform < 3 && held; platform++) {
            held = same(KEEP, 0, platform, 0) && same(GIVE, 0, platform, 1);
        }
        return held;
    }

    /** Makes a ROW an ANSWER, or changes some of one that may be one. */
    private boolean fillRow() {
        int row = random.nextInt(3);
        if (random.nextInt(3) == 0) {
            return same(SET, row, random.nextInt(longest), anyToken());
        }
        List<Integer> tokens = new ArrayList<>();
        addTokens(tokens, random.nextInt(longest + 1), 0);
        boolean held = same(ROW, row, 1 + random.nextInt(2), tokens.size());
        for (int i = 0; i < tokens.size() && held; i++) {
            held = tokens.get(i) == 0 || same(SET, row, i, tokens.get(i));
        }
        return held;
    }

    private void addTokens(List<Integer> tokens, int n, int depth) {
        for (int left = n; left > 0;) {
            if (left >= 2 && random.nextInt(5) == 0 && depth < 25) {
                int inner = random.nextInt(left - 1);
                tokens.add(120);
                addTokens(tokens, inner, depth + 1);
                tokens.add(121);
                left -= inner + 2;
            } else {
                tokens.add(anyToken());
                left--;
            }
        }
    }

    private int anyToken() {
        int what = random.nextInt(10);
        int which = random.nextInt(1 + words);
        return what < 6 ? which : what < 8 ? 100 + which : 110 + which;
    }

    private int below(int n) {
        return random.nextInt(60) == 0 ? (random.nextBoolean() ? n : random.nextBoolean() ? -1 : random.nextInt()) : random.nextInt(n);
    }

    private int[] arguments(int c) {
        int name = below(names);
        int platform = below(3);
        int hand = below(random.nextBoolean() ? 1 : 4);
        int row = below(3);
        int change = below(busy ? 1 : random.nextBoolean() ? 2 : 6);
        switch (NAMES[c]) {
            case "row": return Due.of(row, below(3), random.nextInt(6) == 0 ? -random.nextInt(3) : below(longest + 1));
            case "set": return Due.of(row, below(longest + 1), random.nextInt());
            case "copy": return Due.of(row, below(6), below(3), below(6), below(6));
            case "drop": return Due.of(below(8));
            case "fold": return Due.of(row, below(20));
            case "keep":
            case "give": return Due.of(name, platform, row);
            case "token": return Due.of(name, platform, below(4), below(20));
            case "change": return Due.of(name, platform, change, below(5));
            case "group": return Due.of(below(6), below(6));
            case "shape": return Due.of(below(6), below(2), below(3));
            case "look": return Due.of(hand, name, platform, change);
            case "approve": return Due.of(hand, name, platform, change, below(2));
            case "approveAll": return Due.of(hand, below(busy ? 1 : 4), below(2));
            case "entry": return Due.of(below(busy ? 100 : random.nextBoolean() ? 10 : 40), below(6));
            case "as": return Due.of(name, platform, below(4));
            case "ask": return Due.of(name, platform, below(2));
            case "states": return Due.of(below(5));
            case "trace": return Due.of(below(6));
            case "count": return Due.of(below(7));
            default: return Due.of(name, platform);
        }
    }

    private boolean same(int c, int... a) {
        // what an object answers after its 512th call is free
        if (calls.size() > CALLS) {
            return true;
        }
        int got = callX(c, a);
        int due = callY(c, a);
        ANSWERS.merge(got, 1, Integer::sum);
        calls.add(NAMES[c] + java.util.Arrays.toString(a) + " = " + got + (got == due ? "" : ", due is " + due));
        return got == due;
    }

    private int callX(int c, int[] a) {
        switch (NAMES[c]) {
            case "row": return x.row(a[0], a[1], a[2]);
            case "set": return x.set(a[0], a[1], a[2]);
            case "copy": return x.copy(a[0], a[1], a[2], a[3], a[4]);
            case "drop": return x.drop(a[0]);
            case "fold": return x.fold(a[0], a[1]);
            case "keep": return x.keep(a[0], a[1], a[2]);
            case "give": return x.give(a[0], a[1], a[2]);
            case "begin": return x.begin();
            case "forget": return x.forget(a[0], a[1]);
            case "state": return x.state(a[0], a[1]);
            case "states": return x.states(a[0]);
            case "token": return x.token(a[0], a[1], a[2], a[3]);
            case "cost": return x.cost(a[0], a[1]);
            case "change": return x.change(a[0], a[1], a[2], a[3]);
            case "nearest": return x.nearest(a[0], a[1]);
            case "groups": return x.groups();
            case "group": return x.group(a[0], a[1]);
            case "shape": return x.shape(a[0], a[1], a[2]);
            case "look": return x.look(a[0], a[1], a[2], a[3]);
            case "approve": return x.approve(a[0], a[1], a[2], a[3], a[4]);
            case "approveAll": return x.approveAll(a[0], a[1], a[2]);
            case "undo": return x.undo();
            case "entry": return x.entry(a[0], a[1]);
            case "kind": return x.kind(a[0], a[1]);
            case "as": return x.as(a[0], a[1], a[2]);
            case "ask": return x.ask(a[0], a[1], a[2]);
            case "trace": return x.trace(a[0]);
            case "count": return x.count(a[0]);
            default: return x.status();
        }
    }

    private int callY(int c, int[] a) {
        switch (NAMES[c]) {
            case "row": return y.row(a[0], a[1], a[2]);
            case "set": return y.set(a[0], a[1], a[2]);
            case "copy": return y.copy(a[0], a[1], a[2], a[3], a[4]);
            case "drop": return y.drop(a[0]);
            case "fold": return y.fold(a[0], a[1]);
            case "keep": return y.keep(a[0], a[1], a[2]);
            case "give": return y.give(a[0], a[1], a[2]);
            case "begin": return y.begin();
            case "forget": return y.forget(a[0], a[1]);
            case "state": return y.state(a[0], a[1]);
            case "states": return y.states(a[0]);
            case "token": return y.token(a[0], a[1], a[2], a[3]);
            case "cost": return y.cost(a[0], a[1]);
            case "change": return y.change(a[0], a[1], a[2], a[3]);
            case "nearest": return y.nearest(a[0], a[1]);
            case "groups": return y.groups();
            case "group": return y.group(a[0], a[1]);
            case "shape": return y.shape(a[0], a[1], a[2]);
            case "look": return y.look(a[0], a[1], a[2], a[3]);
            case "approve": return y.approve(a[0], a[1], a[2], a[3], a[4]);
            case "approveAll": return y.approveAll(a[0], a[1], a[2]);
            case "undo": return y.undo();
            case "entry": return y.entry(a[0], a[1]);
            case "kind": return y.kind(a[0], a[1]);
            case "as": return y.as(a[0], a[1], a[2]);
            case "ask": return y.ask(a[0], a[1], a[2]);
            case "trace": return y.trace(a[0]);
            case "count": return y.count(a[0]);
            default: return y.status();
        }
    }
}
