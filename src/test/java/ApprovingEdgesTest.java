/** Boundary cases of approving: what Terms 3 and promises 20 to 24 say of them, a sentence a method. */
public final class ApprovingEdgesTest {
    public static void main(String[] args) {
        handsAreFour();
        doubtIsOneOrNone();
        lookAtEachOfForty();
        lookAtNoSuchChange();
        looksSinceGiven();
        looksOfOneAnswerAlone();
        looksAtSuchAsAreNoneAnyMore();
        changeIsKnownByTheGivenOne();
        changesOfSixtyAreKnown();
        approveNoSuchChange();
        approveToEmptyAndFull();
        approveIsNoAnswer();
        approveMoreThanSixty();
        approveRefusedIsNoLook();
        approveIsALook();
        approvedIsPlainAndNotFoldedAnew();
        approveAllAtOnce();
        approveAllOfUnlikeOnes();
        approveAllOfAll();
        approveAllMoreThanSixty();
        approveAllOneIsNoAnswer();
        approveAllIsNoLook();
        unseenByThisHand();
        unseenSinceGiven();
        unseenIsAsItWasThen();
        bookOfHundred();
        bookOfUndoneOnes();
        refusedInTime();
        undoOfNone();
        undoSkipsUndoneOnes();
        undoWhateverCameBetween();
        undoOfAll();
        entryAtItsEnds();
        Due.end("ApprovingEdgesTest");
    }

    // "the HAND (0 to 3)"
    private static void handsAreFour() {
        GoldenKeeper x = Due.allChanged();
        Due.ends("look: HAND", 0, 3, h -> x.look(h, 11, 2, 0), h -> 1);
        Due.ends("approve: HAND", 0, 3, h -> x.approve(h, h >= 0 && h < 4 ? h : 11, 0, 0, 0), h -> h);
        for (int h = 0; h < 4; h++) {
            Due.is("its HAND", x.entry(h, 0), h);
        }
        GoldenKeeper y = new GoldenKeeper(0);
        for (int name = 0; name < 5; name++) {
            Due.keep(y, name, 0);
            Due.give(y, name, 0, name);
        }
        Due.ends("approveAll: HAND", 0, 3, h -> y.approveAll(h, 0, 0), h -> h);
        for (int h = 0; h < 4; h++) {
            Due.is("its HAND", y.entry(h, 0), h);
        }
        Due.is("no other ENTRY", y.count(3), 4);
    }

    // "with DOUBT (1) or without (0)"
    private static void doubtIsOneOrNone() {
        GoldenKeeper x = new GoldenKeeper(0);
        for (int name = 0; name < 5; name++) {
            Due.keep(x, name, 0);
            Due.give(x, name, 0, name);
        }
        Due.ends("approve: DOUBT", 0, 1, d -> x.approve(0, d == 0 || d == 1 ? d : 4, 0, 0, d), d -> d);
        Due.ends("approveAll: DOUBT", 0, 1, d -> x.approveAll(0, 0, d), d -> 2 + d);
        for (int e = 0; e < 4; e++) {
            Due.is("its DOUBT", x.entry(e, 1), e % 2);
        }
    }

    // "at how many of this answer it has looked since that was given"
    private static void lookAtEachOfForty() {
        GoldenKeeper x = new GoldenKeeper(0);
        Due.keep(x, 11, 2, Due.everyOther(98, 0));
        Due.give(x, 11, 2, Due.everyOther(99, 1));
        for (int hand = 0; hand < 4; hand++) {
            for (int k = 0; k < 40; k++) {
                Due.is("look " + k + " of " + hand, x.look(hand, 11, 2, 39 - k), k + 1);
            }
        }
        Due.is("again at the last", x.look(3, 11, 2, 39), 40);
        Due.is("again at the first", x.look(0, 11, 2, 0), 40);
        Due.is("those that go", x.approveAll(2, 0, 0), 0);
        Due.entry(x, 0, 2, 0, 20, 0, 0, 1);
    }

    // "BAD: HAND, NAME, PLATFORM, no such CHANGE."
    private static void lookAtNoSuchChange() {
        GoldenKeeper x = new GoldenKeeper(0);
        Due.is("nothing", x.look(0, 0, 0, 0), Due.BAD);
        Due.give(x, 0, 0, 1, 5, 2);
        Due.is("NEW", x.look(0, 0, 0, 0), Due.BAD);
        Due.keep(x, 0, 0, 1, 5, 2);
        Due.is("SAME", x.look(0, 0, 0, 0), Due.BAD);
        Due.keep(x, 0, 0, 3, 5, 4);
        for (int i : Due.of(2, 3, -1, Integer.MIN_VALUE, Integer.MAX_VALUE)) {
            Due.is("CHANGE " + i, x.look(0, 0, 0, i), Due.BAD);
        }
        Due.is("the last", x.look(0, 0, 0, 1), 1);
        x.begin();
        Due.is("STALE", x.look(0, 0, 0, 0), Due.BAD);
    }

    // "since that was given"
    private static void looksSinceGiven() {
        GoldenKeeper x = new GoldenKeeper(0);
        Due.keep(x, 0, 0, 1, 5, 2);
        Due.give(x, 0, 0, 3, 5, 4);
        x.look(0, 0, 0, 0);
        Due.is("two", x.look(0, 0, 0, 1), 2);
        Due.keep(x, 0, 0, 1, 5, 2);
        Due.is("KEPT anew", x.look(0, 0, 0, 0), 2);
        x.forget(0, 0);
        Due.keep(x, 0, 0, 1, 5, 2);
        Due.is("forgotten, and KEPT again", x.look(0, 0, 0, 0), 2);
        Due.give(x, 0, 0, 121);
        x.give(0, 0, 6);
        Due.is("a give that is refused", x.look(0, 0, 0, 0), 2);
        Due.give(x, 0, 0, 3, 5, 4);
        Due.is("the same given anew", x.look(0, 0, 0, 0), 1);
        x.begin();
        Due.give(x, 0, 0, 3, 5, 4);
        Due.is("given in a new RUN", x.look(0, 0, 0, 1), 1);
    }

    private static void looksOfOneAnswerAlone() {
        GoldenKeeper x = Due.allChanged();
        x.look(0, 4, 1, 0);
        Due.is("another PLATFORM", x.look(0, 4, 2, 0), 1);
        Due.is("another NAME", x.look(0, 5, 1, 0), 1);
        Due.is("another HAND", x.look(1, 4, 1, 0), 1);
        Due.give(x, 4, 2, 3);
        Due.is("another one given anew", x.look(0, 4, 1, 0), 1);
        Due.keep(x, 4, 1, 2, 1);
        Due.is("and then another CHANGE", x.look(0, 4, 1, 0), 2);
    }

    // "(also such as are none any more)"
    private static void looksAtSuchAsAreNoneAnyMore() {
        GoldenKeeper x = new GoldenKeeper(0);
        Due.keep(x, 0, 0, 1, 5, 2, 6, 3);
        Due.give(x, 0, 0, 7, 5, 8, 6, 9);
        x.look(2, 0, 0, 0);
        x.look(2, 0, 0, 1);
        x.approve(2, 0, 0, 0, 0);
        x.approve(1, 0, 0, 0, 0);
        Due.is("two are none any more", x.look(2, 0, 0, 0), 3);
        x.undo();
        x.undo();
        Due.is("looks stay, when undone", x.look(2, 0, 0, 0), 3);
    }

    // "(a CHANGE is known by where it begins in the given one, and how many come there)"
    private static void changeIsKnownByTheGivenOne() {
        Due.is("as it was", unseenThen(1, 2, 5), 0);
        Due.is("others go", unseenThen(1, 6, 5), 0);
        Due.is("more go", unseenThen(1, 6, 6, 6, 5), 0);
        Due.is("none go", unseenThen(1, 5), 0);
        Due.is("it begins elsewhere in the KEPT one", unseenThen(8, 8, 1, 2, 5), 0);
        Due.is("one less comes", unseenThen(1, 3, 5), 1);
        Due.is("one less comes, behind", unseenThen(1, 4, 5), 1);
        Due.is("one more comes", unseenThen(1), 1);
        Due.is("one more comes, ahead", unseenThen(5), 1);
    }

    /** Looks at what comes between 1 and 5 (3 4); how many are UNSEEN of the last GROUP, when this is KEPT then. */
    private static int unseenThen(int... kept) {
        GoldenKeeper x = new GoldenKeeper(0);
        Due.keep(x, 0, 0, 1, 2, 5);
        Due.give(x, 0, 0, 1, 3, 4, 5);
        Due.is("look", x.look(0, 0, 0, 0), 1);
        Due.keep(x, 0, 0, kept);
        Due.is("approveAll", x.approveAll(0, x.groups() - 1, 0), 0);
        return x.entry(0, 3);
    }

    // where 60 come, and at the end of 60: these are no other CHANGE's, and no other HAND's
    private static void changesOfSixtyAreKnown() {
        GoldenKeeper x = new GoldenKeeper(0);
        Due.keep(x, 0, 0);
        Due.give(x, 0, 0, Due.upTo(1, 60));
        Due.is("sixty come at 0", x.look(0, 0, 0, 0), 1);
        Due.keep(x, 0, 0, Due.join(Due.of(1, 99), Due.upTo(2, 59)));
        Due.is("none come at 1", x.look(0, 0, 0, 0), 2);
        Due.keep(x, 0, 0, Due.join(Due.of(1), Due.upTo(3, 60)));
        Due.is("one comes at 1", x.look(0, 0, 0, 0), 3);
        Due.keep(x, 0, 0, Due.join(Due.upTo(2, 60), Due.of(99)));
        Due.is("none come at 60", x.look(0, 0, 0, 1), 4);
        Due.is("another HAND's first look", x.look(1, 0, 0, 0), 1);
    }

    // "BAD: HAND, NAME, PLATFORM, no such CHANGE, doubt"
    private static void approveNoSuchChange() {
        GoldenKeeper x = new GoldenKeeper(0);
        Due.is("nothing", x.approve(0, 0, 0, 0, 0), Due.BAD);
        Due.keep(x, 0, 0, 1, 5, 2);
        Due.is("STALE", x.approve(0, 0, 0, 0, 0), Due.BAD);
        Due.give(x, 0, 0, 1, 5, 2);
        Due.is("SAME", x.approve(0, 0, 0, 0, 0), Due.BAD);
        Due.give(x, 0, 0, 3, 5, 4);
        for (int i : Due.of(2, -1, Integer.MIN_VALUE, Integer.MAX_VALUE)) {
            Due.is("CHANGE " + i, x.approve(0, 0, 0, i, 0), Due.BAD);
        }
        Due.is("the last", x.approve(0, 0, 0, 1, 0), 0);
        Due.is("it is none any more", x.approve(0, 0, 0, 1, 0), Due.BAD);
        Due.is("the first", x.approve(0, 0, 0, 0, 0), 1);
        Due.is("none is left", x.approve(0, 0, 0, 0, 0), Due.BAD);
        Due.tokens("done", x, 0, 0, 0, 3, 5, 4);
    }

    private static void approveToEmptyAndFull() {
        GoldenKeeper x = new GoldenKeeper(0);
        Due.keep(x, 0, 0, 120, 1, 121);
        Due.give(x, 0, 0);
        Due.is("all go", x.approve(0, 0, 0, 0, 0), 0);
        Due.tokens("an empty ANSWER", x, 0, 0, 0);
        Due.tokens("plain, too", x, 0, 0, 1);
        Due.is("SAME", x.state(0, 0), 2);
        Due.is("it is KEPT", x.count(1), 1);
        Due.give(x, 0, 0, Due.upTo(1, 60));
        Due.is("sixty come", x.approve(0, 0, 0, 0, 0), 1);
        Due.tokens("a full ANSWER", x, 0, 0, 0, Due.upTo(1, 60));
        Due.is("undone", x.undo(), 1);
        Due.tokens("empty again", x, 0, 0, 0);
        Due.is("undone", x.undo(), 0);
        Due.tokens("a LIST again", x, 0, 0, 0, 120, 1, 121);
    }

    // "(If it is no ANSWER with that, it is refused.)"
    private static void approveIsNoAnswer() {
        GoldenKeeper x = new GoldenKeeper(0);
        Due.keep(x, 0, 0, 1, 2, 3);
        Due.give(x, 0, 0, 1, 120, 2, 121, 3);
        Due.is("opens only", x.approve(0, 0, 0, 0, 0), Due.STATE);
        Due.is("closes only", x.approve(0, 0, 0, 1, 0), Due.STATE);
        Due.tokens("KEPT as it was", x, 0, 0, 0, 1, 2, 3);
        Due.keep(x, 0, 0, 1, 120, 2, 121, 3);
        Due.give(x, 0, 0, 1, 2, 3);
        Due.is("is opened no more", x.approve(0, 0, 0, 0, 0), Due.STATE);
        Due.is("is closed no more", x.approve(0, 0, 0, 1, 0), Due.STATE);
        Due.keep(x, 0, 0, 120, 1, 2, 121);
        Due.give(x, 0, 0, 120, 1, 121, 120, 2, 121);
        Due.is("closes and opens", x.approve(0, 0, 0, 0, 0), 0);
        Due.keep(x, 0, 0, 1, 120, 2, 121, 3, 120, 4, 121);
        Due.give(x, 0, 0, 1, 2, 3, 4);
        Due.is("closes ahead of all openings", x.approve(0, 0, 0, 0, 0), Due.STATE);
        Due.is("no ENTRY but the one", x.count(3), 1);
    }

    // "An ANSWER is a row of TOKENS, 60 at most"
    private static void approveMoreThanSixty() {
        GoldenKeeper x = new GoldenKeeper(0);
        Due.keep(x, 0, 0, Due.upTo(1, 60));
        Due.give(x, 0, 0, Due.join(Due.of(0), Due.upTo(1, 59)));
        Due.is("sixty-one", x.approve(0, 0, 0, 0, 0), Due.STATE);
        Due.is("fifty-nine", x.approve(0, 0, 0, 1, 0), 0);
        Due.is("sixty", x.approve(0, 0, 0, 0, 0), 1);
        Due.keep(x, 1, 0, Due.join(new int[59], Due.of(1)));
        Due.give(x, 1, 0, Due.join(Due.of(1), Due.upTo(2, 60)));
        Due.change(x, 1, 0, 0, 0, 59, 0, 0);
        Due.change(x, 1, 0, 1, 60, 0, 1, 59);
        Due.is("a hundred and nineteen", x.approve(0, 1, 0, 1, 0), Due.STATE);
        Due.is("one", x.approve(0, 1, 0, 0, 0), 2);
        Due.is("sixty then", x.approve(0, 1, 0, 0, 0), 3);
        Due.is("SAME", x.state(1, 0), 2);
    }

    // "What is refused .. changes nothing": it is not looked at, either
    private static void approveRefusedIsNoLook() {
        GoldenKeeper x = new GoldenKeeper(0);
        Due.keep(x, 0, 0, 1, 2, 3);
        Due.give(x, 0, 0, 1, 120, 2, 121, 4);
        Due.is("STATE", x.approve(0, 0, 0, 0, 0), Due.STATE);
        Due.is("BAD", x.approve(0, 0, 0, 0, 2), Due.BAD);
        Due.is("one look", x.look(0, 0, 0, 1), 1);
    }

    // "(It is looked at, too.)"
    private static void approveIsALook() {
        GoldenKeeper x = new GoldenKeeper(0);
        Due.keep(x, 0, 0, 1, 5, 1, 6, 1);
        Due.give(x, 0, 0, 2, 5, 2, 6, 2);
        Due.is("approve", x.approve(1, 0, 0, 1, 0), 0);
        Due.is("not UNSEEN", x.entry(0, 3), 0);
        Due.is("a look of this HAND", x.look(1, 0, 0, 0), 2);
        Due.is("of no other HAND", x.look(2, 0, 0, 0), 1);
        Due.is("undo", x.undo(), 0);
        Due.is("approveAll", x.approveAll(1, 0, 0), 1);
        Due.is("but one are seen", x.entry(1, 3), 1);
        Due.is("undo", x.undo(), 1);
        Due.is("looked at already", x.approve(1, 0, 0, 1, 0), 2);
        Due.is("not UNSEEN", x.entry(2, 3), 0);
    }

    // "KEPT, FOLDED, has it done (and is not folded anew); the plain one is that row then."
    private static void approvedIsPlainAndNotFoldedAnew() {
        GoldenKeeper x = new GoldenKeeper(7);
        Due.keep(x, 0, 0, 119, 120, 9, 5, 121, 118, 109);
        Due.give(x, 0, 0, 120, 9, 5, 1, 121, 118, 109);
        Due.change(x, 0, 0, 0, 0, 1, 0, 0);
        Due.is("an ID goes", x.approve(0, 0, 0, 0, 0), 0);
        Due.tokens("the other keeps its number", x, 0, 0, 0, 120, 5, 9, 121, 111, 100);
        Due.tokens("plain", x, 0, 0, 1, 120, 5, 9, 121, 111, 100);
        Due.is("it is no FOLDED one", x.kind(0, 0), 0);
        Due.keep(x, 1, 0, 120, 3, 2, 121);
        Due.give(x, 1, 0, 120, 9, 3, 2, 121, 7);
        Due.is("one comes", x.approve(0, 1, 0, 1, 0), 1);
        Due.tokens("plain, what was FOLDED", x, 1, 0, 1, 120, 2, 3, 121, 7);
    }

    // "A GROUP: all its CHANGES at once, as they stand."
    private static void approveAllAtOnce() {
        GoldenKeeper x = new GoldenKeeper(0);
        Due.keep(x, 0, 0, 1, 1, 5, 1, 1, 6, 1, 1);
        Due.give(x, 0, 0, 2, 5, 2, 6, 2);
        Due.is("one GROUP", x.groups(), 1);
        Due.is("three at once", x.approveAll(0, 0, 0), 0);
        Due.entry(x, 0, 0, 0, 3, 3, 0, 1);
        Due.tokens("done", x, 0, 0, 0, 2, 5, 2, 6, 2);
        Due.keep(x, 0, 0, 5, 6);
        Due.give(x, 0, 0, 7, 5, 7, 6, 7);
        Due.is("three come", x.approveAll(0, 0, 0), 1);
        Due.tokens("done", x, 0, 0, 0, 7, 5, 7, 6, 7);
        Due.keep(x, 1, 0, 7, 5, 7, 6, 7);
        Due.give(x, 1, 0, 5, 6);
        Due.is("three go", x.approveAll(0, 0, 0), 2);
        Due.tokens("done", x, 1, 0, 0, 5, 6);
        Due.is("all are SAME", x.states(2), 2);
    }

    // each KEPT one is itself with it
    private static void approveAllOfUnlikeOnes() {
        GoldenKeeper x = new GoldenKeeper(0);
        Due.keep(x, 0, 0, 1, 5);
        Due.give(x, 0, 0, 2, 5);
        Due.keep(x, 3, 1);
        Due.give(x, 3, 1, 4);
        Due.keep(x, 5, 1, 6, 7, 1);
        Due.give(x, 5, 1, 6, 7, 2);
        Due.keep(x, 11, 2, 8, 1, 9, 1);
        Due.give(x, 11, 2, 2, 9, 2);
        Due.is("approveAll", x.approveAll(0, 0, 0), 0);
        Due.entry(x, 0, 0, 0, 3, 3, 0, 3);
        Due.tokens("the first", x, 0, 0, 0, 2, 5);
        Due.tokens("of another GROUP", x, 3, 1, 0);
        Due.tokens("one between", x, 5, 1, 0, 6, 7, 2);
        Due.tokens("the last, but for another GROUP", x, 11, 2, 0, 8, 1, 9, 2);
        Due.is("undo", x.undo(), 0);
        Due.tokens("the first", x, 0, 0, 1, 1, 5);
        Due.tokens("one between", x, 5, 1, 1, 6, 7, 1);
        Due.tokens("the last", x, 11, 2, 1, 8, 1, 9, 1);
    }

    private static void approveAllOfAll() {
        GoldenKeeper x = Due.allChanged();
        Due.is("approveAll", x.approveAll(3, 0, 1), 0);
        Due.entry(x, 0, 3, 1, 36, 36, 0, 36);
        Due.is("all are SAME", x.states(2), 36);
        Due.is("no GROUP is left", x.groups(), 0);
        Due.is("no such GROUP", x.approveAll(3, 0, 1), Due.BAD);
    }

    // each CHANGE alone would do, both are one TOKEN too many
    private static void approveAllMoreThanSixty() {
        GoldenKeeper x = new GoldenKeeper(0);
        Due.keep(x, 0, 0, Due.upTo(1, 59));
        Due.give(x, 0, 0, Due.join(Due.of(99, 1, 99), Due.upTo(2, 58)));
        Due.is("two in the first GROUP", x.group(0, 0), 2);
        Due.is("sixty-one", x.approveAll(0, 0, 0), Due.STATE);
        Due.is("the one that goes", x.approveAll(0, 1, 0), 0);
        Due.is("sixty", x.approveAll(0, 0, 0), 1);
        Due.is("SAME", x.state(0, 0), 2);
        x.undo();
        x.undo();
        Due.is("one alone", x.approve(0, 0, 0, 1, 0), 2);
        Due.is("sixty TOKENS", x.token(0, 0, 0, 59), 59);
    }

    // "STATE: one would be no ANSWER", be it the first, one between, or the last
    private static void approveAllOneIsNoAnswer() {
        approveAllButFor(0);
        approveAllButFor(17);
        approveAllButFor(35);
    }

    /** 121 120 comes between 1 and 2, in three answers: a KEPT one is an ANSWER with that within a LIST only. */
    private static void approveAllButFor(int wrong) {
        GoldenKeeper x = new GoldenKeeper(0);
        int[] three = {0, 17, 35};
        for (int at : three) {
            Due.keep(x, at / 3, at % 3, at == wrong ? Due.of(1, 2) : Due.of(120, 1, 2, 121));
            Due.give(x, at / 3, at % 3, 120, 1, 121, 120, 2, 121);
        }
        int group = x.change(wrong / 3, wrong % 3, 1, 4);
        Due.is("three CHANGES", x.group(group, 0), 3);
        Due.is("one would be none", x.approveAll(0, group, 0), Due.STATE);
        for (int at : three) {
            Due.is("KEPT as it was", x.token(at / 3, at % 3, 0, 1), at == wrong ? 2 : 1);
            Due.is("still CHANGED", x.state(at / 3, at % 3), 3);
        }
        Due.is("no ENTRY", x.count(3), 0);
        x.forget(wrong / 3, wrong % 3);
        Due.is("without that one", x.approveAll(0, 0, 0), 0);
        Due.entry(x, 0, 0, 0, 2, 2, 0, 2);
    }

    // "UNSEEN: not looked at, one by one"
    private static void approveAllIsNoLook() {
        GoldenKeeper x = new GoldenKeeper(0);
        Due.keep(x, 0, 0, 1, 5, 2);
        Due.give(x, 0, 0, 3, 5, 4);
        Due.is("approveAll", x.approveAll(0, 0, 0), 0);
        x.undo();
        Due.is("the first look", x.look(0, 0, 0, 1), 1);
        Due.is("approveAll again", x.approveAll(0, 0, 0), 1);
        Due.is("UNSEEN still", x.entry(1, 3), 1);
    }

    // "by this HAND"
    private static void unseenByThisHand() {
        for (int hand = 0; hand < 4; hand++) {
            GoldenKeeper x = Due.allChanged();
            for (int other = 0; other < 4; other++) {
                for (int k = 0; other != hand && k < 12; k++) {
                    x.look(other, k, 1, 0);
                }
            }
            x.look(hand, 0, 0, 0);
            x.look(hand, 11, 2, 0);
            x.approveAll(hand, 0, 0);
            Due.entry(x, 0, hand, 0, 36, 34, 0, 36);
        }
    }

    // "since the given one was given"
    private static void unseenSinceGiven() {
        GoldenKeeper x = new GoldenKeeper(0);
        Due.keep(x, 0, 0, 1);
        Due.keep(x, 0, 1, 1);
        Due.give(x, 0, 0, 2);
        Due.give(x, 0, 1, 2);
        x.look(0, 0, 0, 0);
        x.look(0, 0, 1, 0);
        Due.give(x, 0, 1, 2);
        x.approveAll(0, 0, 0);
        Due.is("the one given anew is UNSEEN", x.entry(0, 3), 1);
        x.undo();
        Due.keep(x, 0, 0, 3);
        Due.keep(x, 0, 1, 3);
        x.approveAll(0, 0, 0);
        Due.is("KEPT anew is not given anew", x.entry(1, 3), 1);
        x.undo();
        x.begin();
        Due.give(x, 0, 0, 2);
        Due.give(x, 0, 1, 2);
        x.approveAll(0, 0, 0);
        Due.is("both are of a new RUN", x.entry(2, 3), 2);
    }

    private static void unseenIsAsItWasThen() {
        GoldenKeeper x = Due.allChanged();
        x.approveAll(0, 0, 0);
        x.undo();
        x.look(0, 0, 0, 0);
        Due.is("looks that came later", x.entry(0, 3), 36);
        x.begin();
        Due.entry(x, 0, 0, 0, 36, 36, 1, 36);
    }

    // "THE BOOK: up to 100 ENTRIES"; "FULL"
    private static void bookOfHundred() {
        GoldenKeeper x = new GoldenKeeper(0);
        Due.fill(x, 0, Due.everyOther(98, 0));
        Due.fill(x, 1, Due.everyOther(99, 1));
        for (int p = 0; p < 3; p++) {
            x.keep(6, p, 0);
            x.give(6, p, 1);
        }
        for (int e = 0; e < 100; e++) {
            Due.is("ENTRY " + e, x.approve(e % 4, 6, e / 40, 0, e % 2), e);
        }
        Due.is("a hundred", x.count(3), 100);
        Due.is("the hundred and first", x.approve(0, 6, 2, 0, 0), Due.FULL);
        Due.is("the hundred and first", x.approveAll(0, 0, 0), Due.FULL);
        Due.is("a hundred still", x.count(3), 100);
        Due.is("none is undone", x.count(4), 100);
        Due.is("CHANGES that are left", x.count(5), 20);
        Due.entry(x, 99, 3, 1, 1, 0, 0, 1);
        Due.is("no ENTRY 100", x.entry(100, 0), Due.NONE);
        for (int e = 99; e >= 0; e--) {
            Due.is("undo " + e, x.undo(), e);
        }
        Due.is("none is left", x.undo(), Due.NONE);
        Due.is("all CHANGES again", x.count(5), 120);
        Due.is("FULL still", x.approve(0, 6, 2, 0, 0), Due.FULL);
        Due.is("all are undone", x.count(4), 0);
    }

    private static void bookOfUndoneOnes() {
        GoldenKeeper x = new GoldenKeeper(0);
        Due.keep(x, 0, 0, 1);
        Due.give(x, 0, 0, 2);
        for (int e = 0; e < 100; e++) {
            Due.is("ENTRY " + e, x.approveAll(0, 0, 0), e);
            Due.is("undo " + e, x.undo(), e);
        }
        Due.is("undone ones are ENTRIES, too", x.approveAll(0, 0, 0), Due.FULL);
        Due.is("FULL", x.approve(1, 0, 0, 0, 0), Due.FULL);
        Due.tokens("KEPT as it was", x, 0, 0, 0, 1);
        Due.keep(x, 0, 0, 2, 1);
        Due.is("FULL was no look", x.look(1, 0, 0, 0), 1);
    }

    // "BAD ..; STATE: ..; FULL"
    private static void refusedInTime() {
        GoldenKeeper x = new GoldenKeeper(0);
        Due.keep(x, 0, 0, 1);
        Due.give(x, 0, 0, 120, 1, 121);
        notYetFull(x);
        Due.keep(x, 1, 0, 1);
        Due.give(x, 1, 0, 2);
        for (int e = 0; e < 100; e++) {
            x.approve(0, 1, 0, 0, 0);
            x.undo();
        }
        notYetFull(x);
        Due.is("FULL", x.approve(0, 1, 0, 0, 0), Due.FULL);
        Due.is("FULL", x.approveAll(0, 2, 0), Due.FULL);
        Due.is("BAD ahead of FULL", x.approve(0, 1, 0, 0, 2), Due.BAD);
        Due.is("BAD ahead of FULL", x.approve(4, 1, 0, 0, 0), Due.BAD);
        Due.is("BAD ahead of FULL", x.approve(0, 1, 0, 1, 0), Due.BAD);
        Due.is("BAD ahead of FULL", x.approveAll(0, 3, 0), Due.BAD);
        Due.is("BAD ahead of FULL", x.approveAll(0, 2, -1), Due.BAD);
    }

    private static void notYetFull(GoldenKeeper x) {
        Due.is("STATE", x.approve(0, 0, 0, 0, 0), Due.STATE);
        Due.is("STATE", x.approveAll(0, 1, 0), Due.STATE);
        Due.is("HAND ahead of STATE", x.approve(4, 0, 0, 0, 0), Due.BAD);
        Due.is("HAND ahead of STATE", x.approveAll(-1, 1, 0), Due.BAD);
        Due.is("DOUBT ahead of STATE", x.approve(0, 0, 0, 0, 2), Due.BAD);
        Due.is("DOUBT ahead of STATE", x.approveAll(0, 1, 2), Due.BAD);
    }

    // "NONE: there is none."
    private static void undoOfNone() {
        GoldenKeeper x = Due.allChanged();
        Due.is("no ENTRY", x.undo(), Due.NONE);
        Due.is("KEPT as they were", x.states(3), 36);
        x.approveAll(0, 0, 0);
        Due.is("one", x.undo(), 0);
        Due.is("undone already", x.undo(), Due.NONE);
        Due.is("KEPT as they were", x.states(3), 36);
    }

    // "The latest ENTRY that is not undone is undone"
    private static void undoSkipsUndoneOnes() {
        GoldenKeeper x = new GoldenKeeper(0);
        Due.keep(x, 0, 0, 1, 2, 3);
        Due.give(x, 0, 0, 5, 1, 6, 2, 7, 3, 8);
        Due.is("approve", x.approve(0, 0, 0, 0, 0), 0);
        Due.is("approve", x.approve(0, 0, 0, 0, 0), 1);
        Due.is("undo", x.undo(), 1);
        Due.is("approve", x.approve(0, 0, 0, 1, 0), 2);
        Due.tokens("0 and 2 stand", x, 0, 0, 0, 5, 1, 2, 7, 3);
        Due.is("undo", x.undo(), 2);
        Due.tokens("0 stands", x, 0, 0, 0, 5, 1, 2, 3);
        Due.is("not 1, which is undone", x.undo(), 0);
        Due.tokens("none stands", x, 0, 0, 0, 1, 2, 3);
        Due.is("none is left", x.undo(), Due.NONE);
        for (int e = 0; e < 3; e++) {
            Due.is("undone " + e, x.entry(e, 4), 1);
        }
    }

    // "what is KEPT is as it was ahead of it, of all NAMES and PLATFORMS that it changed"
    private static void undoWhateverCameBetween() {
        GoldenKeeper x = new GoldenKeeper(1);
        Due.keep(x, 0, 0, 101, 1);
        Due.keep(x, 0, 1, 102, 1);
        Due.keep(x, 0, 2, 103, 1);
        for (int p = 0; p < 3; p++) {
            Due.give(x, 0, p, 109, 2);
        }
        x.approveAll(0, 0, 0);
        x.forget(0, 0);
        Due.keep(x, 0, 1, 7);
        Due.keep(x, 1, 0, 8);
        x.begin();
        Due.is("undo", x.undo(), 0);
        Due.tokens("forgotten, FOLDED", x, 0, 0, 0, 100, 1);
        Due.tokens("forgotten, plain", x, 0, 0, 1, 101, 1);
        Due.tokens("KEPT otherwise", x, 0, 1, 1, 102, 1);
        Due.tokens("KEPT so", x, 0, 2, 1, 103, 1);
        Due.tokens("not changed by it", x, 1, 0, 1, 8);
        Due.is("nothing is given by it", x.count(2), 0);
    }

    private static void undoOfAll() {
        GoldenKeeper x = Due.allChanged();
        x.approveAll(0, 0, 0);
        Due.is("all are SAME", x.states(2), 36);
        Due.is("undo", x.undo(), 0);
        Due.is("all are CHANGED", x.states(3), 36);
        Due.is("one GROUP again", x.group(0, 0), 36);
        Due.entry(x, 0, 0, 0, 36, 36, 1, 36);
    }

    // "BAD: what; NONE: no such ENTRY."
    private static void entryAtItsEnds() {
        GoldenKeeper x = Due.allChanged();
        Due.is("no ENTRY", x.entry(0, 0), Due.NONE);
        Due.is("what ahead of NONE", x.entry(0, 6), Due.BAD);
        Due.is("what ahead of NONE", x.entry(-1, -1), Due.BAD);
        x.look(2, 0, 0, 0);
        x.approveAll(2, 0, 1);
        int[] due = {2, 1, 36, 35, 0, 36};
        Due.ends("what", 0, 5, what -> x.entry(0, what), what -> due[what]);
        for (int e : Due.of(1, -1, 100, Integer.MIN_VALUE, Integer.MAX_VALUE)) {
            Due.ends("what of ENTRY " + e, 0, 5, what -> x.entry(e, what), what -> Due.NONE);
        }
    }

    private ApprovingEdgesTest() { }
}
