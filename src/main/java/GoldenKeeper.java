import java.util.Arrays;

/**
 * A keeper of answers that are right until someone says otherwise. The document ../shared/DOC.md
 * says what each call answers; its words in capitals are the words of this file.
 */
public final class GoldenKeeper {
    public static final int NONE = -1000000, BAD = -1000001, STATE = -1000002, FULL = -1000003;

    private static final int FOUND = -1000010;
    private static final int FINDING_NULL = 1;
    private static final int FINDING_PLACE = 2;
    private static final int FINDING_KIND = 3;
    private static final int FINDING_SIZE = 4;
    private static final int FINDING_STORE = 5;

    private static final int ROWS = 8;
    private static final int LANES = 3;
    private static final int ITEMS = 60;

    private static final int WORDS_END = 99;
    private static final int DATE = 100;
    private static final int DATES_END = 109;
    private static final int ID = 110;
    private static final int IDS_END = 119;
    private static final int OPEN = 120;
    private static final int CLOSE = 121;

    private static final int RULE_DATES = 1;
    private static final int RULE_IDS = 2;
    private static final int RULE_LISTS = 4;
    private static final int ALL_RULES = 7;

    private static final int NAMES = 12;
    private static final int PLATFORMS = 3;
    private static final int SLOTS = NAMES * PLATFORMS;
    private static final int HANDS = 4;
    private static final int SIDES = 4;

    private static final int NOTHING = 0;
    private static final int NEW = 1;
    private static final int SAME = 2;
    private static final int CHANGED = 3;
    private static final int STALE = 4;

    // Each CHANGE has a step, and a staying TOKEN of both rows parts it from the next one:
    // c CHANGES need 3 * c - 2 TOKENS, and two rows have 120 at most.
    private static final int CHANGES = 40;
    private static final int ENTRIES = 100;
    private static final int TRACE = 16;
    private static final int NOT_ANY = -1;

    private static final int KIND_KEPT = 0;
    private static final int KIND_FOLDED = 1;
    private static final int KIND_SPLIT = 2;
    private static final int KIND_WIDE = 3;

    private final Row[] rows = new Row[ROWS];
    private final Slot[] slots = new Slot[SLOTS];
    private final Folder folder;
    private final Differ differ = new Differ();
    private final Draft draft = new Draft();
    private final Groups groups = new Groups();
    private boolean grouped = false;
    private final Entry[] book = new Entry[ENTRIES];
    private int entries = 0;
    private final int[] trace = new int[TRACE];
    private int traced = 0;
    private int finding = 0;

    public GoldenKeeper(int rules) {
        folder = new Folder(rules & ALL_RULES);
        for (int i = 0; i < ROWS; i++) {
            rows[i] = new Row();
        }
        for (int i = 0; i < SLOTS; i++) {
            slots[i] = new Slot(i / PLATFORMS, i % PLATFORMS);
        }
    }

    // ---- rows

    public int row(int row, int lane, int n) {
        if (!isRow(row) || !isBelow(lane, LANES) || n > ITEMS) {
            return BAD;
        }
        if (n < 0) {
            return found(FINDING_SIZE);
        }
        rows[row].make(lane, n);
        return fine(n);
    }

    public int set(int row, int i, int v) {
        if (!isRow(row)) {
            return BAD;
        }
        Row r = rows[row];
        if (r.missing) {
            return found(FINDING_NULL);
        }
        if (!isBelow(i, r.length)) {
            return found(FINDING_PLACE);
        }
        r.items[i] = r.cut(v);
        return fine(r.items[i]);
    }

    public int copy(int a, int i, int b, int j, int n) {
        if (!isRow(a) || !isRow(b)) {
            return BAD;
        }
        Row from = rows[a];
        Row to = rows[b];
        if (from.missing || to.missing) {
            return found(FINDING_NULL);
        }
        if (from.lane != to.lane) {
            return found(FINDING_STORE);
        }
        if (!from.hasRange(i, n) || !to.hasRange(j, n)) {
            return found(FINDING_PLACE);
        }
        System.arraycopy(from.items, i, to.items, j, n);
        return fine(n);
    }

    public int drop(int row) {
        if (!isRow(row)) {
            return BAD;
        }
        Row r = rows[row];
        if (r.missing) {
            return found(FINDING_NULL);
        }
        r.missing = true;
        return fine(r.length);
    }

    public int fold(int row, int i) {
        if (!isRow(row)) {
            return BAD;
        }
        Row r = rows[row];
        if (r.missing) {
            return found(FINDING_NULL);
        }
        if (!Tokens.areAnswer(r.items, r.length)) {
            return STATE;
        }
        folder.work(r.items, r.length);
        return fine(isBelow(i, r.length) ? folder.tokens[i] : NONE);
    }

    // ---- answers

    public int keep(int name, int platform, int row) {
        int at = slotAt(name, platform);
        if (at < 0 || !isRow(row)) {
            return BAD;
        }
        Row r = rows[row];
        if (r.missing) {
            return found(FINDING_NULL);
        }
        if (!Tokens.areAnswer(r.items, r.length)) {
            return STATE;
        }
        slots[at].kept = answerOf(r);
        touch(at);
        return fine(r.length);
    }

    public int give(int name, int platform, int row) {
        int at = slotAt(name, platform);
        if (at < 0 || !isRow(row)) {
            return BAD;
        }
        Row r = rows[row];
        if (r.missing) {
            return found(FINDING_NULL);
        }
        if (!Tokens.areAnswer(r.items, r.length)) {
            return STATE;
        }
        slots[at].given = answerOf(r);
        slots[at].forgetLooks();
        touch(at);
        return fine(slots[at].stateNow());
    }

    public int begin() {
        int were = 0;
        for (int at = 0; at < SLOTS; at++) {
            if (slots[at].given != null) {
                were++;
                slots[at].given = null;
                slots[at].forgetLooks();
                touch(at);
            }
        }
        return were;
    }

    public int forget(int name, int platform) {
        int at = slotAt(name, platform);
        if (at < 0) {
            return BAD;
        }
        if (slots[at].kept == null) {
            return 0;
        }
        slots[at].kept = null;
        touch(at);
        return 1;
    }

    public int state(int name, int platform) {
        int at = slotAt(name, platform);
        return at < 0 ? BAD : slots[at].stateNow();
    }

    public int states(int state) {
        if (state < NOTHING || state > STALE) {
            return BAD;
        }
        int many = 0;
        for (int at = 0; at < SLOTS; at++) {
            if (slots[at].stateNow() == state) {
                many++;
            }
        }
        return many;
    }

    public int token(int name, int platform, int side, int i) {
        int at = slotAt(name, platform);
        if (at < 0 || !isBelow(side, SIDES)) {
            return BAD;
        }
        Answer answer = side < 2 ? slots[at].kept : slots[at].given;
        if (answer == null) {
            return STATE;
        }
        int[] tokens = side % 2 == 0 ? answer.folded : answer.plain;
        return isBelow(i, tokens.length) ? tokens[i] : NONE;
    }

    public int cost(int name, int platform) {
        int at = slotAt(name, platform);
        return at < 0 ? BAD : changesAt(at).steps;
    }

    public int change(int name, int platform, int i, int what) {
        int at = slotAt(name, platform);
        if (at < 0 || !isBelow(what, 5)) {
            return BAD;
        }
        Changes changes = changesAt(at);
        if (!isBelow(i, changes.count)) {
            return NONE;
        }
        switch (what) {
            case 0: return changes.keptAt[i];
            case 1: return changes.goes[i];
            case 2: return changes.givenAt[i];
            case 3: return changes.comes[i];
            default:
                gatherGroups();
                return changes.group[i];
        }
    }

    public int nearest(int name, int platform) {
        int at = slotAt(name, platform);
        if (at < 0) {
            return BAD;
        }
        Answer given = slots[at].given;
        if (given == null) {
            return STATE;
        }
        int best = NONE;
        int least = 0;
        for (int p = 0; p < PLATFORMS; p++) {
            Answer kept = slots[name * PLATFORMS + p].kept;
            if (p == platform || kept == null) {
                continue;
            }
            int steps = differ.measure(kept.folded, given.folded);
            if (best == NONE || steps < least) {
                best = p;
                least = steps;
            }
        }
        return best;
    }

    // ---- groups

    public int groups() {
        gatherGroups();
        return groups.count;
    }

    public int group(int group, int what) {
        gatherGroups();
        if (!isBelow(group, groups.count) || !isBelow(what, 6)) {
            return BAD;
        }
        Slot first = slots[groups.firstSlot[group]];
        int which = groups.firstChange[group];
        switch (what) {
            case 0: return groups.size[group];
            case 1: return first.changes.goes[which];
            case 2: return first.changes.comes[which];
            case 3: return first.name;
            case 4: return first.platform;
            default: return which;
        }
    }

    public int shape(int group, int side, int k) {
        gatherGroups();
        if (!isBelow(group, groups.count) || !isBelow(side, 2)) {
            return BAD;
        }
        Slot first = slots[groups.firstSlot[group]];
        int which = groups.firstChange[group];
        if (first.kept == null || first.given == null) {
            return BAD;
        }
        if (side == 0) {
            return isBelow(k, first.changes.goes[which])
                ? first.kept.folded[first.changes.keptAt[which] + k] : NONE;
        }
        return isBelow(k, first.changes.comes[which])
            ? first.given.folded[first.changes.givenAt[which] + k] : NONE;
    }

    // ---- approving

    public int look(int hand, int name, int platform, int i) {
        int at = slotAt(name, platform);
        if (!isBelow(hand, HANDS) || at < 0) {
            return BAD;
        }
        if (!isBelow(i, changesAt(at).count)) {
            return BAD;
        }
        slots[at].lookAt(hand, i);
        return slots[at].looksOf(hand);
    }

    public int approve(int hand, int name, int platform, int i, int doubt) {
        int at = slotAt(name, platform);
        if (!isBelow(hand, HANDS) || at < 0 || !isBelow(doubt, 2)) {
            return BAD;
        }
        if (!isBelow(i, changesAt(at).count)) {
            return BAD;
        }
        draft.write(slots[at], i, NOT_ANY);
        if (!draft.isAnswer()) {
            return STATE;
        }
        if (entries >= ENTRIES) {
            return FULL;
        }
        slots[at].lookAt(hand, i);
        Entry entry = new Entry(hand, doubt, 1);
        enter(entry, at, i, NOT_ANY);
        return addToBook(entry);
    }

    public int approveAll(int hand, int group, int doubt) {
        gatherGroups();
        if (!isBelow(hand, HANDS) || !isBelow(group, groups.count) || !isBelow(doubt, 2)) {
            return BAD;
        }
        int places = 0;
        for (int at = 0; at < SLOTS; at++) {
            if (slots[at].changes.countOf(NOT_ANY, group) > 0) {
                places++;
                draft.write(slots[at], NOT_ANY, group);
                if (!draft.isAnswer()) {
                    return STATE;
                }
            }
        }
        if (entries >= ENTRIES) {
            return FULL;
        }
        Entry entry = new Entry(hand, doubt, places);
        for (int at = 0; at < SLOTS; at++) {
            if (slots[at].changes.countOf(NOT_ANY, group) > 0) {
                enter(entry, at, NOT_ANY, group);
            }
        }
        return addToBook(entry);
    }

    public int undo() {
        int e = entries - 1;
        while (e >= 0 && book[e].undone) {
            e--;
        }
        if (e < 0) {
            return NONE;
        }
        Entry entry = book[e];
        entry.undone = true;
        for (int k = 0; k < entry.changed; k++) {
            slots[entry.places[k]].kept = entry.before[k];
            touch(entry.places[k]);
        }
        return e;
    }

    public int entry(int entry, int what) {
        if (!isBelow(what, 6)) {
            return BAD;
        }
        if (!isBelow(entry, entries)) {
            return NONE;
        }
        Entry e = book[entry];
        switch (what) {
            case 0: return e.hand;
            case 1: return e.doubt;
            case 2: return e.changes;
            case 3: return e.unseen;
            case 4: return e.undone ? 1 : 0;
            default: return e.changed;
        }
    }

    // ---- kept ones asked

    public int kind(int name, int platform) {
        int at = slotAt(name, platform);
        if (at < 0) {
            return BAD;
        }
        return slots[at].kept == null ? STATE : toldKind(at);
    }

    public int as(int name, int platform, int kind) {
        int at = slotAt(name, platform);
        if (at < 0 || kind < KIND_KEPT || kind > KIND_WIDE) {
            return BAD;
        }
        Answer kept = slots[at].kept;
        if (kept == null) {
            return STATE;
        }
        if (!isOneOf(toldKind(at), kind)) {
            return found(FINDING_KIND);
        }
        return fine(kept.folded.length);
    }

    public int ask(int name, int platform, int what) {
        int at = slotAt(name, platform);
        if (at < 0 || !isBelow(what, 2)) {
            return BAD;
        }
        traced = 0;
        if (slots[at].kept == null) {
            return STATE;
        }
        int told = toldKind(at);
        return what == 0 ? askSize(slots[at], told) : askMark(slots[at], told);
    }

    public int trace(int i) {
        return isBelow(i, traced) ? trace[i] : NONE;
    }

    public int count(int what) {
        switch (what) {
            case 0: return countRows();
            case 1: return countKept();
            case 2: return countGiven();
            case 3: return entries;
            case 4: return countStanding();
            case 5: return countChanges();
            case 6: return folder.rules;
            default: return BAD;
        }
    }

    public int status() {
        return finding;
    }

    // ---- what several calls share

    private static boolean isBelow(int i, int end) {
        return i >= 0 && i < end;
    }

    private static boolean isRow(int row) {
        return isBelow(row, ROWS);
    }

    /** The place of a NAME and PLATFORM among all; below 0: there is none. */
    private static int slotAt(int name, int platform) {
        if (!isBelow(name, NAMES) || !isBelow(platform, PLATFORMS)) {
            return NOT_ANY;
        }
        return name * PLATFORMS + platform;
    }

    private int found(int number) {
        finding = number;
        return FOUND - number;
    }

    private int fine(int answer) {
        finding = 0;
        return answer;
    }

    private Answer answerOf(Row r) {
        folder.work(r.items, r.length);
        return new Answer(Arrays.copyOf(r.items, r.length), Arrays.copyOf(folder.tokens, r.length));
    }

    /** What is KEPT or given here is another one now, so what was found out about it is old. */
    private void touch(int at) {
        slots[at].compared = false;
        grouped = false;
    }

    private Changes changesAt(int at) {
        Slot slot = slots[at];
        if (!slot.compared) {
            slot.changes.clear();
            if (slot.kept != null && slot.given != null) {
                differ.walk(slot.kept.folded, slot.given.folded, slot.changes);
            }
            slot.compared = true;
        }
        return slot.changes;
    }

    private void gatherGroups() {
        if (grouped) {
            return;
        }
        groups.count = 0;
        for (int at = 0; at < SLOTS; at++) {
            int many = changesAt(at).count;
            for (int i = 0; i < many; i++) {
                groups.gather(slots, at, i);
            }
        }
        grouped = true;
    }

    /** Does the one CHANGE, or all of the GROUP, in one KEPT answer, and writes it into the ENTRY. */
    private void enter(Entry entry, int at, int one, int group) {
        Slot slot = slots[at];
        entry.changes += slot.changes.countOf(one, group);
        entry.unseen += slot.unseenOf(entry.hand, one, group);
        entry.remember(at, slot.kept);
        draft.write(slot, one, group);
        slot.kept = draft.toAnswer();
        touch(at);
    }

    private int addToBook(Entry entry) {
        if (entries >= ENTRIES) {
            return FULL;
        }
        book[entries] = entry;
        entries++;
        return entries - 1;
    }

    private int countRows() {
        int many = 0;
        for (int i = 0; i < ROWS; i++) {
            if (!rows[i].missing) {
                many++;
            }
        }
        return many;
    }

    private int countKept() {
        int many = 0;
        for (int at = 0; at < SLOTS; at++) {
            if (slots[at].kept != null) {
                many++;
            }
        }
        return many;
    }

    private int countGiven() {
        int many = 0;
        for (int at = 0; at < SLOTS; at++) {
            if (slots[at].given != null) {
                many++;
            }
        }
        return many;
    }

    private int countStanding() {
        int many = 0;
        for (int e = 0; e < entries; e++) {
            if (!book[e].undone) {
                many++;
            }
        }
        return many;
    }

    private int countChanges() {
        int many = 0;
        for (int at = 0; at < SLOTS; at++) {
            many += changesAt(at).count;
        }
        return many;
    }

    // ---- KINDS and ASKS

    private int toldKind(int at) {
        if (isFoldedOne(at)) {
            return isWide(at) ? KIND_WIDE : KIND_FOLDED;
        }
        return isSplit(at) ? KIND_SPLIT : KIND_KEPT;
    }

    private boolean isFoldedOne(int at) {
        Answer kept = slots[at].kept;
        return kept != null && !Tokens.areAlike(kept.plain, kept.folded);
    }

    private boolean isSplit(int at) {
        Answer kept = slots[at].kept;
        if (kept == null) {
            return false;
        }
        int first = at - at % PLATFORMS;
        for (int other = first; other < first + PLATFORMS; other++) {
            Answer its = slots[other].kept;
            if (other != at && its != null && !Tokens.areAlike(its.folded, kept.folded)) {
                return true;
            }
        }
        return false;
    }

    /** Of a FOLDED one: whether it is WIDE, too. */
    private boolean isWide(int at) {
        Answer kept = slots[at].kept;
        if (kept == null) {
            return false;
        }
        for (int other = 0; other < SLOTS; other++) {
            Answer its = slots[other].kept;
            if (slots[other].name != slots[at].name && its != null
                && Tokens.areAlike(its.folded, kept.folded)
                && !Tokens.areAlike(its.plain, kept.plain)) {
                return true;
            }
        }
        return false;
    }

    private static boolean isOneOf(int told, int kind) {
        return kind == KIND_KEPT || kind == told || (kind == KIND_FOLDED && told == KIND_WIDE);
    }

    private void leave(int body) {
        if (traced < TRACE) {
            trace[traced] = body;
            traced++;
        }
    }

    private int askSize(Slot slot, int told) {
        switch (told) {
            case KIND_WIDE: return sizeOfWide(slot);
            case KIND_FOLDED: return sizeOfFolded(slot);
            case KIND_SPLIT: return sizeOfSplit(slot);
            default: return sizeLent(slot);
        }
    }

    private int askMark(Slot slot, int told) {
        switch (told) {
            // A WIDE one has no BODY of its own here: that of the FOLDED ones is the nearest.
            case KIND_WIDE:
            case KIND_FOLDED: return markOfFolded(slot);
            case KIND_SPLIT: return markOfSplit(slot);
            default: return markLent(slot);
        }
    }

    private int sizeLent(Slot slot) {
        leave(10);
        return slot.kept == null ? 0 : slot.kept.folded.length;
    }

    private int sizeOfFolded(Slot slot) {
        leave(11);
        return sizeLent(slot) + 1;
    }

    private int sizeOfSplit(Slot slot) {
        leave(12);
        return sizeLent(slot) * 2;
    }

    private int sizeOfWide(Slot slot) {
        leave(13);
        int size = sizeOfFolded(slot);
        return size + askMark(slot, KIND_WIDE);
    }

    private int markLent(Slot slot) {
        leave(20);
        return slot.name;
    }

    private int markOfFolded(Slot slot) {
        leave(21);
        return markLent(slot) + 100;
    }

    private int markOfSplit(Slot slot) {
        leave(22);
        return markLent(slot) + slot.platform * 10;
    }

    // ---- classes inside

    private static final class Row {
        boolean missing = true;
        int lane = 0;
        int length = 0;
        final int[] items = new int[ITEMS];

        void make(int newLane, int n) {
            missing = false;
            lane = newLane;
            length = n;
            Arrays.fill(items, 0);
        }

        int cut(int v) {
            if (lane == 0) {
                return (byte) v;
            }
            return lane == 1 ? (short) v : v;
        }

        boolean hasRange(int from, int n) {
            // length - n can't overflow once n is known not to be below 0
            return from >= 0 && n >= 0 && from <= length - n;
        }
    }

    /** An ANSWER, plain and FOLDED; it never changes, so THE BOOK may hold it as it was. */
    private static final class Answer {
        final int[] plain;
        final int[] folded;

        Answer(int[] plain, int[] folded) {
            this.plain = plain;
            this.folded = folded;
        }
    }

    private static final class Tokens {
        static boolean areAnswer(int[] tokens, int n) {
            if (n > ITEMS) {
                return false;
            }
            int depth = 0;
            for (int i = 0; i < n; i++) {
                int t = tokens[i];
                if (t < 0 || t > CLOSE) {
                    return false;
                }
                if (t == OPEN) {
                    depth++;
                } else if (t == CLOSE) {
                    depth--;
                }
                if (depth < 0) {
                    return false;
                }
            }
            return depth == 0;
        }

        static boolean areAlike(int[] a, int[] b) {
            return a.length == b.length && areAlikeFrom(a, 0, b, 0, a.length);
        }

        static boolean areAlikeFrom(int[] a, int i, int[] b, int j, int n) {
            for (int k = 0; k < n; k++) {
                if (a[i + k] != b[j + k]) {
                    return false;
                }
            }
            return true;
        }

        static boolean isDate(int t) {
            return t > WORDS_END && t <= DATES_END;
        }

        static boolean isId(int t) {
            return t > DATES_END && t <= IDS_END;
        }
    }

    /** Folds one ANSWER after the other, in rows that are used again. */
    private static final class Folder {
        final int rules;
        final int[] tokens = new int[ITEMS];
        private final int[] opens = new int[ITEMS];
        private final int[] starts = new int[ITEMS + 1];
        private final int[] order = new int[ITEMS];
        private final int[] moved = new int[ITEMS];
        private final int[] names = new int[IDS_END - ID + 1];

        Folder(int rules) {
            this.rules = rules;
        }

        /** Leaves in tokens what the first n of an ANSWER are, FOLDED. */
        void work(int[] plain, int n) {
            System.arraycopy(plain, 0, tokens, 0, n);
            if ((rules & RULE_DATES) != 0) {
                levelDates(n);
            }
            if ((rules & RULE_LISTS) != 0) {
                orderLists(n);
            }
            if ((rules & RULE_IDS) != 0) {
                nameIds(n);
            }
        }

        private void levelDates(int n) {
            for (int i = 0; i < n; i++) {
                if (Tokens.isDate(tokens[i])) {
                    tokens[i] = DATE;
                }
            }
        }

        private void nameIds(int n) {
            Arrays.fill(names, 0);
            int next = ID;
            for (int i = 0; i < n; i++) {
                if (Tokens.isId(tokens[i])) {
                    int id = tokens[i] - ID;
                    if (names[id] == 0) {
                        names[id] = next;
                        next++;
                    }
                    tokens[i] = names[id];
                }
            }
        }

        // A LIST closes after all its inner ones, so these are in order when its turn comes.
        private void orderLists(int n) {
            int depth = 0;
            for (int i = 0; i < n; i++) {
                if (tokens[i] == OPEN) {
                    opens[depth] = i;
                    depth++;
                } else if (tokens[i] == CLOSE && depth > 0) {
                    depth--;
                    orderParts(opens[depth] + 1, i);
                }
            }
        }

        private void orderParts(int from, int to) {
            int parts = findParts(from, to);
            for (int p = 0; p < parts; p++) {
                int hole = p;
                while (hole > 0 && compareParts(order[hole - 1], p) > 0) {
                    order[hole] = order[hole - 1];
                    hole--;
                }
                order[hole] = p;
            }
            int end = from;
            for (int p = 0; p < parts; p++) {
                int start = starts[order[p]];
                int n = starts[order[p] + 1] - start;
                System.arraycopy(tokens, start, moved, end, n);
                end += n;
            }
            System.arraycopy(moved, from, tokens, from, end - from);
        }

        /** Leaves in starts where each PART begins, and behind the last one where it ends. */
        private int findParts(int from, int to) {
            int parts = 0;
            int depth = 0;
            for (int i = from; i < to; i++) {
                if (depth == 0) {
                    starts[parts] = i;
                    parts++;
                }
                if (tokens[i] == OPEN) {
                    depth++;
                } else if (tokens[i] == CLOSE) {
                    depth--;
                }
            }
            starts[parts] = to;
            return parts;
        }

        private int compareParts(int p, int q) {
            int lengthP = starts[p + 1] - starts[p];
            int lengthQ = starts[q + 1] - starts[q];
            int n = Math.min(lengthP, lengthQ);
            for (int k = 0; k < n; k++) {
                int a = rank(tokens[starts[p] + k]);
                int b = rank(tokens[starts[q] + k]);
                if (a != b) {
                    return Integer.compare(a, b);
                }
            }
            return Integer.compare(lengthP, lengthQ);
        }

        private static int rank(int t) {
            return Tokens.isId(t) ? ID : t;
        }
    }

    /** Finds DIFFERENCES, in a table that is used again. */
    private static final class Differ {
        // ahead[i][j]: the least COST from TOKEN i of the one and j of the other to both ends
        private final int[][] ahead = new int[ITEMS + 1][ITEMS + 1];

        int measure(int[] a, int[] b) {
            int n = Math.min(a.length, ITEMS);
            int m = Math.min(b.length, ITEMS);
            for (int i = n; i >= 0; i--) {
                for (int j = m; j >= 0; j--) {
                    if (i == n || j == m) {
                        ahead[i][j] = n - i + m - j;
                    } else if (a[i] == b[j]) {
                        ahead[i][j] = ahead[i + 1][j + 1];
                    } else {
                        ahead[i][j] = 1 + Math.min(ahead[i + 1][j], ahead[i][j + 1]);
                    }
                }
            }
            return ahead[0][0];
        }

        void walk(int[] kept, int[] given, Changes changes) {
            measure(kept, given);
            int n = Math.min(kept.length, ITEMS);
            int m = Math.min(given.length, ITEMS);
            int i = 0;
            int j = 0;
            boolean staying = true;
            for (int step = 0; step < n + m && (i < n || j < m); step++) {
                if (i < n && j < m && kept[i] == given[j]) {
                    staying = true;
                    i++;
                    j++;
                    continue;
                }
                if (staying) {
                    changes.open(i, j);
                    staying = false;
                }
                if (i < n && (j >= m || ahead[i][j] == ahead[i + 1][j] + 1)) {
                    changes.addStep(true);
                    i++;
                } else {
                    changes.addStep(false);
                    j++;
                }
            }
        }
    }

    /** The CHANGES of one NAME and PLATFORM, from the beginning on. */
    private static final class Changes {
        int count = 0;
        int steps = 0;
        final int[] keptAt = new int[CHANGES];
        final int[] goes = new int[CHANGES];
        final int[] givenAt = new int[CHANGES];
        final int[] comes = new int[CHANGES];
        final int[] group = new int[CHANGES];

        void clear() {
            count = 0;
            steps = 0;
        }

        void open(int i, int j) {
            if (count < CHANGES) {
                keptAt[count] = i;
                goes[count] = 0;
                givenAt[count] = j;
                comes[count] = 0;
                count++;
            }
        }

        /** One more TOKEN goes, or comes, by the latest CHANGE. */
        void addStep(boolean going) {
            steps++;
            if (count > 0 && going) {
                goes[count - 1]++;
            } else if (count > 0) {
                comes[count - 1]++;
            }
        }

        /** Whether a CHANGE is the one that is meant, or of the GROUP that is meant. */
        boolean isMeant(int i, int one, int ofGroup) {
            return one == NOT_ANY ? group[i] == ofGroup : i == one;
        }

        int countOf(int one, int ofGroup) {
            int many = 0;
            for (int i = 0; i < count; i++) {
                if (isMeant(i, one, ofGroup)) {
                    many++;
                }
            }
            return many;
        }
    }

    /** What there is of one NAME and PLATFORM. */
    private static final class Slot {
        private static final int COMES = ITEMS + 1;
        private static final int OF_HAND = COMES * COMES;

        final int name;
        final int platform;
        Answer kept = null;
        Answer given = null;
        final Changes changes = new Changes();
        boolean compared = false;
        private int[] looks = new int[4];
        private int looked = 0;

        Slot(int name, int platform) {
            this.name = name;
            this.platform = platform;
        }

        int stateNow() {
            if (given == null) {
                return kept == null ? NOTHING : STALE;
            }
            if (kept == null) {
                return NEW;
            }
            return Tokens.areAlike(kept.folded, given.folded) ? SAME : CHANGED;
        }

        void forgetLooks() {
            looked = 0;
        }

        void lookAt(int hand, int i) {
            if (hasLooked(hand, i)) {
                return;
            }
            if (looked >= looks.length) {
                looks = Arrays.copyOf(looks, looked * 2 + 4);
            }
            looks[looked] = lookOf(hand, i);
            looked++;
        }

        int looksOf(int hand) {
            int many = 0;
            for (int k = 0; k < looked; k++) {
                if (looks[k] / OF_HAND == hand) {
                    many++;
                }
            }
            return many;
        }

        int unseenOf(int hand, int one, int group) {
            int many = 0;
            for (int i = 0; i < changes.count; i++) {
                if (changes.isMeant(i, one, group) && !hasLooked(hand, i)) {
                    many++;
                }
            }
            return many;
        }

        private boolean hasLooked(int hand, int i) {
            int look = lookOf(hand, i);
            for (int k = 0; k < looked; k++) {
                if (looks[k] == look) {
                    return true;
                }
            }
            return false;
        }

        // A CHANGE is known by its place in the given one alone, for the KEPT one may change.
        private int lookOf(int hand, int i) {
            return hand * OF_HAND + changes.givenAt[i] * COMES + changes.comes[i];
        }
    }

    /** The GROUPS of all CHANGES, each held by its first one. */
    private static final class Groups {
        int count = 0;
        final int[] firstSlot = new int[SLOTS * CHANGES];
        final int[] firstChange = new int[SLOTS * CHANGES];
        final int[] size = new int[SLOTS * CHANGES];

        void gather(Slot[] slots, int at, int i) {
            int g = 0;
            while (g < count && !haveOneShape(slots[firstSlot[g]], firstChange[g], slots[at], i)) {
                g++;
            }
            if (g >= size.length) {
                return;
            }
            if (g == count) {
                firstSlot[g] = at;
                firstChange[g] = i;
                size[g] = 0;
                count++;
            }
            size[g]++;
            slots[at].changes.group[i] = g;
        }

        private static boolean haveOneShape(Slot s, int i, Slot t, int j) {
            Changes a = s.changes;
            Changes b = t.changes;
            if (a.goes[i] != b.goes[j] || a.comes[i] != b.comes[j]) {
                return false;
            }
            if (s.kept == null || s.given == null || t.kept == null || t.given == null) {
                return false;
            }
            return Tokens.areAlikeFrom(s.kept.folded, a.keptAt[i], t.kept.folded, b.keptAt[j], a.goes[i])
                && Tokens.areAlikeFrom(s.given.folded, a.givenAt[i], t.given.folded, b.givenAt[j], a.comes[i]);
        }
    }

    /** The row that a KEPT answer becomes by what is approved. */
    private static final class Draft {
        // All that is KEPT and all that is given: more can't be put together.
        private final int[] tokens = new int[2 * ITEMS];
        private int length = 0;

        void write(Slot slot, int one, int group) {
            length = 0;
            if (slot.kept == null || slot.given == null) {
                return;
            }
            int[] kept = slot.kept.folded;
            Changes changes = slot.changes;
            int next = 0;
            for (int i = 0; i < changes.count; i++) {
                if (changes.isMeant(i, one, group)) {
                    add(kept, next, changes.keptAt[i] - next);
                    add(slot.given.folded, changes.givenAt[i], changes.comes[i]);
                    next = changes.keptAt[i] + changes.goes[i];
                }
            }
            add(kept, next, kept.length - next);
        }

        boolean isAnswer() {
            return Tokens.areAnswer(tokens, length);
        }

        Answer toAnswer() {
            int[] row = Arrays.copyOf(tokens, length);
            return new Answer(row, row);
        }

        private void add(int[] from, int start, int n) {
            if (n > 0 && length + n <= tokens.length) {
                System.arraycopy(from, start, tokens, length, n);
                length += n;
            }
        }
    }

    private static final class Entry {
        final int hand;
        final int doubt;
        int changes = 0;
        int unseen = 0;
        boolean undone = false;
        int changed = 0;
        final int[] places;
        final Answer[] before;

        Entry(int hand, int doubt, int many) {
            this.hand = hand;
            this.doubt = doubt;
            int room = Math.max(many, 0);
            places = new int[room];
            before = new Answer[room];
        }

        void remember(int at, Answer kept) {
            if (changed < places.length) {
                places[changed] = at;
                before[changed] = kept;
                changed++;
            }
        }
    }
}
