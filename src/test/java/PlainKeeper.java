import java.util.ArrayList;
import java.util.Comparator;
import java.util.HashMap;
import java.util.HashSet;
import java.util.List;
import java.util.Map;
import java.util.Set;

/**
 * A second keeper for ModelTest, written from the document in the plainest way that the Java library
 * allows: all is worked out anew in each call, by other means than the class under test.
 */
final class PlainKeeper {
    private static final int NONE = -1000000, BAD = -1000001, STATE = -1000002, FULL = -1000003;

    private record Answer(List<Integer> plain, List<Integer> folded) { }

    private record Change(int slot, int index, int keptAt, int givenAt, List<Integer> goes, List<Integer> comes) {
        List<List<Integer>> shape() {
            return List.of(goes, comes);
        }
    }

    private record Look(int hand, int slot, int givenAt, int comes) { }

    private record Entry(int hand, int doubt, int changes, int unseen, Map<Integer, Answer> before) { }

    private final int rules;
    private final Object[] rows = new Object[8];
    private final Map<Integer, Answer> kept = new HashMap<>();
    private final Map<Integer, Answer> given = new HashMap<>();
    private final Set<Look> looks = new HashSet<>();
    private final List<Entry> book = new ArrayList<>();
    private final Set<Integer> undone = new HashSet<>();
    private List<Integer> trace = new ArrayList<>();
    private int status = 0;

    PlainKeeper(int rules) {
        this.rules = rules & 7;
    }

    // ---- rows: real arrays, so that the machine finds what there is to be found

    int row(int row, int lane, int n) {
        if (row < 0 || row > 7 || lane < 0 || lane > 2 || n > 60) return BAD;
        try {
            rows[row] = lane == 0 ? new byte[n] : lane == 1 ? new short[n] : new int[n];
            return fine(n);
        } catch (NegativeArraySizeException e) {
            return found(4);
        }
    }

    int set(int row, int i, int v) {
        if (row < 0 || row > 7) return BAD;
        if (rows[row] == null) return found(1);
        try {
            if (rows[row] instanceof byte[] b) return fine(b[i] = (byte) v);
            if (rows[row] instanceof short[] s) return fine(s[i] = (short) v);
            return fine(((int[]) rows[row])[i] = v);
        } catch (ArrayIndexOutOfBoundsException e) {
            return found(2);
        }
    }

    int copy(int a, int i, int b, int j, int n) {
        if (a < 0 || a > 7 || b < 0 || b > 7) return BAD;
        try {
            System.arraycopy(rows[a], i, rows[b], j, n);
            return fine(n);
        } catch (NullPointerException e) {
            return found(1);
        } catch (ArrayStoreException e) {
            return found(5);
        } catch (IndexOutOfBoundsException e) {
            return found(2);
        }
    }

    int drop(int row) {
        if (row < 0 || row > 7) return BAD;
        if (rows[row] == null) return found(1);
        int n = items(row).size();
        rows[row] = null;
        return fine(n);
    }

    int fold(int row, int i) {
        if (row < 0 || row > 7) return BAD;
        if (rows[row] == null) return found(1);
        if (!isAnswer(items(row))) return STATE;
        return fine(at(folded(items(row)), i));
    }

    // ---- answers

    int keep(int name, int platform, int row) {
        if (isNoSlot(name, platform) || row < 0 || row > 7) return BAD;
        if (rows[row] == null) return found(1);
        if (!isAnswer(items(row))) return STATE;
        kept.put(name * 3 + platform, new Answer(items(row), folded(items(row))));
        return fine(items(row).size());
    }

    int give(int name, int platform, int row) {
        if (isNoSlot(name, platform) || row < 0 || row > 7) return BAD;
        if (rows[row] == null) return found(1);
        if (!isAnswer(items(row))) return STATE;
        int slot = name * 3 + platform;
        given.put(slot, new Answer(items(row), folded(items(row))));
        looks.removeIf(look -> look.slot() == slot);
        return fine(state(name, platform));
    }

    int begin() {
        int were = given.size();
        given.clear();
        looks.clear();
        return were;
    }

    int forget(int name, int platform) {
        if (isNoSlot(name, platform)) return BAD;
        return kept.remove(name * 3 + platform) == null ? 0 : 1;
    }

    int state(int name, int platform) {
        if (isNoSlot(name, platform)) return BAD;
        Answer k = kept.get(name * 3 + platform);
        Answer g = given.get(name * 3 + platform);
        if (k == null && g == null) return 0;
        if (k == null) return 1;
        if (g == null) return 4;
        return k.folded().equals(g.folded()) ? 2 : 3;
    }

    int states(int state) {
        if (state < 0 || state > 4) return BAD;
        int many = 0;
        for (int slot = 0; slot < 36; slot++) {
            if (state(slot / 3, slot % 3) == state) many++;
        }
        return many;
    }

    int token(int name, int platform, int side, int i) {
        if (isNoSlot(name, platform) || side < 0 || side > 3) return BAD;
        Answer a = (side < 2 ? kept : given).get(name * 3 + platform);
        if (a == null) return STATE;
        return at(side == 0 || side == 2 ? a.folded() : a.plain(), i);
    }

    int cost(int name, int platform) {
        if (isNoSlot(name, platform)) return BAD;
        int many = 0;
        for (Change c : changes(name * 3 + platform)) {
            many += c.goes().size() + c.comes().size();
        }
        return many;
    }

    int change(int name, int platform, int i, int what) {
        if (isNoSlot(name, platform) || what < 0 || what > 4) return BAD;
        List<Change> all = changes(name * 3 + platform);
        if (i < 0 || i >= all.size()) return NONE;
        Change c = all.get(i);
        int[] told = {c.keptAt(), c.goes().size(), c.givenAt(), c.comes().size(), shapes().indexOf(c.shape())};
        return told[what];
    }

    int nearest(int name, int platform) {
        if (isNoSlot(name, platform)) return BAD;
        Answer g = given.get(name * 3 + platform);
        if (g == null) return STATE;
        int best = NONE;
        int least = Integer.MAX_VALUE;
        for (int p = 0; p < 3; p++) {
            Answer k = kept.get(name * 3 + p);
            if (p == platform || k == null) continue;
            int common = common(k.folded(), g.folded())[0][0];
            int steps = k.folded().size() + g.folded().size() - 2 * common;
            if (steps < least) {
                best = p;
                least = steps;
            }
        }
        return best;
    }

    // ---- groups

    int groups() {
        return shapes().size();
    }

    int group(int group, int what) {
        if (group < 0 || group >= groups() || what < 0 || what > 5) return BAD;
        List<Change> its = members(group);
        Change first = its.get(0);
        int[] told = {its.size(), first.goes().size(), first.comes().size(), first.slot() / 3, first.slot() % 3, first.index()};
        return told[what];
    }

    int shape(int group, int side, int k) {
        if (group < 0 || group >= groups() || side < 0 || side > 1) return BAD;
        return at(shapes().get(group).get(side), k);
    }

    // ---- approving

    int look(int hand, int name, int platform, int i) {
        if (hand < 0 || hand > 3 || isNoSlot(name, platform)) return BAD;
        int slot = name * 3 + platform;
        if (i < 0 || i >= changes(slot).size()) return BAD;
        looks.add(lookOf(hand, changes(slot).get(i)));
        return (int) looks.stream().filter(l -> l.hand() == hand && l.slot() == slot).count();
    }

    int approve(int hand, int name, int platform, int i, int doubt) {
        if (hand < 0 || hand > 3 || isNoSlot(name, platform) || doubt < 0 || doubt > 1) return BAD;
        List<Change> all = changes(name * 3 + platform);
        if (i < 0 || i >= all.size()) return BAD;
        return approveThese(hand, List.of(all.get(i)), doubt, true);
    }

    int approveAll(int hand, int group, int doubt) {
        if (hand < 0 || hand > 3 || group < 0 || group >= groups() || doubt < 0 || doubt > 1) return BAD;
        return approveThese(hand, members(group), doubt, false);
    }

    int undo() {
        for (int e = book.size() - 1; e >= 0; e--) {
            if (undone.add(e)) {
                kept.putAll(book.get(e).before());
                return e;
            }
        }
        return NONE;
    }

    int entry(int entry, int what) {
        if (what < 0 || what > 5) return BAD;
        if (entry < 0 || entry >= book.size()) return NONE;
        Entry e = book.get(entry);
        int[] told = {e.hand(), e.doubt(), e.changes(), e.unseen(), undone.contains(entry) ? 1 : 0, e.before().size()};
        return told[what];
    }

    // ---- kept ones asked

    int kind(int name, int platform) {
        if (isNoSlot(name, platform)) return BAD;
        if (!kept.containsKey(name * 3 + platform)) return STATE;
        KeptOne one = one(name * 3 + platform);
        return one instanceof WideOne ? 3 : one instanceof FoldedOne ? 1 : one instanceof SplitOne ? 2 : 0;
    }

    int as(int name, int platform, int kind) {
        if (isNoSlot(name, platform) || kind < 0 || kind > 3) return BAD;
        if (!kept.containsKey(name * 3 + platform)) return STATE;
        Class<?>[] classes = {KeptOne.class, FoldedOne.class, SplitOne.class, WideOne.class};
        KeptOne one = one(name * 3 + platform);
        return classes[kind].isInstance(one) ? fine(one.answer.folded().size()) : found(3);
    }

    int ask(int name, int platform, int what) {
        if (isNoSlot(name, platform) || what < 0 || what > 1) return BAD;
        trace = new ArrayList<>();
        if (!kept.containsKey(name * 3 + platform)) return STATE;
        KeptOne one = one(name * 3 + platform);
        return what == 0 ? one.size() : one.mark();
    }

    int trace(int i) {
        return i < 16 ? at(trace, i) : NONE;
    }

    int count(int what) {
        switch (what) {
            case 0: return (int) java.util.Arrays.stream(rows).filter(r -> r != null).count();
            case 1: return kept.size();
            case 2: return given.size();
            case 3: return book.size();
            case 4: return book.size() - undone.size();
            case 5: return allChanges().size();
            case 6: return rules;
            default: return BAD;
        }
    }

    int status() {
        return status;
    }

    // ---- KINDS as classes of the machine

    private static class KeptOne {
        final PlainKeeper keeper;
        final Answer answer;
        final int slot;

        KeptOne(PlainKeeper keeper, int slot) {
            this.keeper = keeper;
            this.answer = keeper.kept.get(slot);
            this.slot = slot;
        }

        int size() {
            keeper.trace.add(10);
            return answer.folded().size();
        }

        int mark() {
            keeper.trace.add(20);
            return slot / 3;
        }
    }

    private static class FoldedOne extends KeptOne {
        FoldedOne(PlainKeeper keeper, int slot) {
            super(keeper, slot);
        }

        @Override int size() {
            keeper.trace.add(11);
            return super.size() + 1;
        }

        @Override int mark() {
            keeper.trace.add(21);
            return super.mark() + 100;
        }
    }

    private static final class SplitOne extends KeptOne {
        SplitOne(PlainKeeper keeper, int slot) {
            super(keeper, slot);
        }

        @Override int size() {
            keeper.trace.add(12);
            return 2 * super.size();
        }

        @Override int mark() {
            keeper.trace.add(22);
            return super.mark() + 10 * (slot % 3);
        }
    }

    private static final class WideOne extends FoldedOne {
        WideOne(PlainKeeper keeper, int slot) {
            super(keeper, slot);
        }

        @Override int size() {
            keeper.trace.add(13);
            return super.size() + mark();
        }
    }

    private KeptOne one(int slot) {
        Answer a = kept.get(slot);
        boolean folded = !a.plain().equals(a.folded());
        boolean split = false;
        boolean wide = false;
        for (Map.Entry<Integer, Answer> other : kept.entrySet()) {
            boolean alike = other.getValue().folded().equals(a.folded());
            if (other.getKey() / 3 == slot / 3) {
                split |= !alike;
            } else {
                wide |= alike && !other.getValue().plain().equals(a.plain());
            }
        }
        if (folded && wide) return new WideOne(this, slot);
        if (folded) return new FoldedOne(this, slot);
        return split ? new SplitOne(this, slot) : new KeptOne(this, slot);
    }

    // ---- what several calls share

    private int found(int number) {
        status = number;
        return -1000010 - number;
    }

    private int fine(int answer) {
        status = 0;
        return answer;
    }

    private static boolean isNoSlot(int name, int platform) {
        return name < 0 || name > 11 || platform < 0 || platform > 2;
    }

    private static int at(List<Integer> list, int i) {
        return i < 0 || i >= list.size() ? NONE : list.get(i);
    }

    private List<Integer> items(int row) {
        List<Integer> list = new ArrayList<>();
        for (int i = 0; i < java.lang.reflect.Array.getLength(rows[row]); i++) {
            list.add(((Number) java.lang.reflect.Array.get(rows[row], i)).intValue());
        }
        return list;
    }

    /** By cutting out what is closed at once, until nothing is left to cut. */
    private static boolean isAnswer(List<Integer> tokens) {
        if (tokens.size() > 60) return false;
        StringBuilder lists = new StringBuilder();
        for (int t : tokens) {
            if (t < 0 || t > 121) return false;
            if (t >= 120) lists.append(t == 120 ? '(' : ')');
        }
        String left = lists.toString();
        while (left.contains("()")) {
            left = left.replace("()", "");
        }
        return left.isEmpty();
    }

    private List<Integer> folded(List<Integer> plain) {
        List<Integer> tokens = new ArrayList<>();
        for (int t : plain) {
            tokens.add((rules & 1) != 0 && t >= 100 && t <= 109 ? 100 : t);
        }
        if ((rules & 4) != 0) {
            int[] next = {0};
            List<List<Integer>> parts = parts(tokens, next);
            tokens = new ArrayList<>();
            parts.forEach(tokens::addAll);
        }
        if ((rules & 2) != 0) {
            Map<Integer, Integer> names = new HashMap<>();
            for (int i = 0; i < tokens.size(); i++) {
                int t = tokens.get(i);
                if (t >= 110 && t <= 119) {
                    names.putIfAbsent(t, 110 + names.size());
                    tokens.set(i, names.get(t));
                }
            }
        }
        return tokens;
    }

    private static List<List<Integer>> parts(List<Integer> tokens, int[] next) {
        List<List<Integer>> parts = new ArrayList<>();
        while (next[0] < tokens.size() && tokens.get(next[0]) != 121) {
            int t = tokens.get(next[0]++);
            List<Integer> part = new ArrayList<>();
            part.add(t);
            if (t == 120) {
                List<List<Integer>> inner = parts(tokens, next);
                inner.sort(Comparator.comparing(PlainKeeper::key));
                inner.forEach(part::addAll);
                part.add(tokens.get(next[0]++));
            }
            parts.add(part);
        }
        return parts;
    }

    private static String key(List<Integer> part) {
        StringBuilder key = new StringBuilder();
        for (int t : part) {
            key.append((char) (t >= 110 && t <= 119 ? 110 : t));
        }
        return key.toString();
    }

    /** How many TOKENS can stay, from each two places on. */
    private static int[][] common(List<Integer> a, List<Integer> b) {
        int[][] most = new int[a.size() + 1][b.size() + 1];
        for (int i = a.size() - 1; i >= 0; i--) {
            for (int j = b.size() - 1; j >= 0; j--) {
                most[i][j] = Math.max(most[i + 1][j], most[i][j + 1]);
                if (a.get(i).equals(b.get(j))) most[i][j] = Math.max(most[i][j], most[i + 1][j + 1] + 1);
            }
        }
        return most;
    }

    private List<Change> changes(int slot) {
        List<Change> all = new ArrayList<>();
        if (state(slot / 3, slot % 3) != 3) return all;
        List<Integer> a = kept.get(slot).folded();
        List<Integer> b = given.get(slot).folded();
        int[][] most = common(a, b);
        int i = 0;
        int j = 0;
        while (i < a.size() || j < b.size()) {
            int fromI = i;
            int fromJ = j;
            while ((i < a.size() || j < b.size()) && !(i < a.size() && j < b.size() && a.get(i).equals(b.get(j)))) {
                if (i < a.size() && most[i + 1][j] == most[i][j]) {
                    i++;
                } else {
                    j++;
                }
            }
            if (i > fromI || j > fromJ) {
                all.add(new Change(slot, all.size(), fromI, fromJ, a.subList(fromI, i), b.subList(fromJ, j)));
            }
            i++;
            j++;
        }
        return all;
    }

    private List<Change> allChanges() {
        List<Change> all = new ArrayList<>();
        for (int slot = 0; slot < 36; slot++) {
            all.addAll(changes(slot));
        }
        return all;
    }

    private List<List<List<Integer>>> shapes() {
        List<List<List<Integer>>> shapes = new ArrayList<>();
        for (Change c : allChanges()) {
            if (!shapes.contains(c.shape())) shapes.add(c.shape());
        }
        return shapes;
    }

    private List<Change> members(int group) {
        List<Change> its = allChanges();
        List<List<Integer>> shape = shapes().get(group);
        its.removeIf(c -> !c.shape().equals(shape));
        return its;
    }

    private static Look lookOf(int hand, Change c) {
        return new Look(hand, c.slot(), c.givenAt(), c.comes().size());
    }

    private int approveThese(int hand, List<Change> these, int doubt, boolean looked) {
        Map<Integer, List<Integer>> rowsThen = new HashMap<>();
        // from the last one on, so that the places of the others stay as they are
        for (int k = these.size() - 1; k >= 0; k--) {
            Change c = these.get(k);
            List<Integer> row = rowsThen.computeIfAbsent(c.slot(), s -> new ArrayList<>(kept.get(s).folded()));
            for (int n = 0; n < c.goes().size(); n++) {
                row.remove(c.keptAt());
            }
            row.addAll(c.keptAt(), c.comes());
        }
        for (List<Integer> row : rowsThen.values()) {
            if (!isAnswer(row)) return STATE;
        }
        if (book.size() >= 100) return FULL;
        if (looked) looks.add(lookOf(hand, these.get(0)));
        int unseen = 0;
        for (Change c : these) {
            if (!looks.contains(lookOf(hand, c))) unseen++;
        }
        Map<Integer, Answer> before = new HashMap<>();
        rowsThen.forEach((slot, row) -> {
            before.put(slot, kept.get(slot));
            kept.put(slot, new Answer(row, row));
        });
        book.add(new Entry(hand, doubt, these.size(), unseen, before));
        return book.size() - 1;
    }
}
