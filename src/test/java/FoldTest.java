/** Promise 6, and what FOLDED means. */
public final class FoldTest {
    public static void main(String[] args) {
        answers();
        dates();
        ids();
        lists();
        rulesTogether();
        deepLists();
        refusals();
        Due.end("FoldTest");
    }

    private static void answers() {
        isAnswer(true);
        isAnswer(true, 0, 99, 100, 109, 110, 119);
        isAnswer(true, 120, 121, 120, 120, 121, 121);
        isAnswer(false, 122);
        isAnswer(false, -1);
        isAnswer(false, Integer.MIN_VALUE);
        isAnswer(false, 120);
        isAnswer(false, 121);
        isAnswer(false, 121, 120);
        isAnswer(false, 120, 121, 121, 120);
        isAnswer(false, 120, 120, 121);
    }

    private static void isAnswer(boolean due, int... tokens) {
        GoldenKeeper x = new GoldenKeeper(7);
        Due.fill(x, 0, tokens);
        Due.isTrue("answer of " + tokens.length, (x.fold(0, 60) == Due.NONE) == due);
        Due.isTrue("keep answer of " + tokens.length, (x.keep(0, 0, 0) == tokens.length) == due);
        Due.isTrue("give answer of " + tokens.length, (x.give(0, 1, 0) == 1) == due);
        Due.is("what is refused is not kept", x.count(1), due ? 1 : 0);
        Due.is("what is refused is not given", x.count(2), due ? 1 : 0);
    }

    private static void dates() {
        Due.folds("dates", 1, Due.of(99, 100, 105, 109, 110, 119), 99, 100, 100, 100, 110, 119);
        Due.folds("no dates", 6, Due.of(99, 100, 105, 109), 99, 100, 105, 109);
    }

    private static void ids() {
        Due.folds("ids", 2, Due.of(119, 5, 110, 119, 111, 109), 110, 5, 111, 110, 112, 109);
        Due.folds("all ids", 2, Due.of(119, 118, 117, 116, 115, 114, 113, 112, 111, 110),
            110, 111, 112, 113, 114, 115, 116, 117, 118, 119);
        Due.folds("no ids", 5, Due.of(119, 5, 110), 119, 5, 110);
    }

    private static void lists() {
        Due.folds("top stays", 4, Due.of(5, 3, 120, 121, 1), 5, 3, 120, 121, 1);
        Due.folds("list", 4, Due.of(120, 5, 3, 4, 121), 120, 3, 4, 5, 121);
        Due.folds("two lists", 4, Due.of(120, 9, 8, 121, 120, 2, 1, 121), 120, 8, 9, 121, 120, 1, 2, 121);
        Due.folds("words, dates, ids, lists", 4, Due.of(120, 120, 121, 119, 103, 101, 0, 121),
            120, 0, 101, 103, 119, 120, 121, 121);
        Due.folds("ids are alike", 4, Due.of(120, 119, 110, 115, 121), 120, 119, 110, 115, 121);
        Due.folds("ids are alike, whatever follows", 4, Due.of(120, 119, 120, 121, 110, 3, 121),
            120, 3, 119, 110, 120, 121, 121);
        Due.folds("ids are alike within lists", 4, Due.of(120, 120, 119, 2, 121, 120, 111, 1, 121, 121),
            120, 120, 1, 111, 121, 120, 2, 119, 121, 121);
        Due.folds("first stays first", 4, Due.of(120, 120, 119, 121, 120, 111, 121, 121),
            120, 120, 119, 121, 120, 111, 121, 121);
        Due.folds("inner ones first", 4, Due.of(120, 120, 2, 9, 121, 120, 8, 1, 121, 121),
            120, 120, 1, 8, 121, 120, 2, 9, 121, 121);
        Due.folds("a list that ends earlier comes later", 4, Due.of(120, 120, 3, 121, 120, 3, 3, 121, 121),
            120, 120, 3, 3, 121, 120, 3, 121, 121);
        Due.folds("none", 0, Due.of(120, 119, 109, 5, 121), 120, 119, 109, 5, 121);
    }

    private static void rulesTogether() {
        Due.folds("dates ahead of order", 5, Due.of(120, 120, 109, 2, 121, 120, 101, 5, 121, 121),
            120, 120, 2, 100, 121, 120, 5, 100, 121, 121);
        Due.folds("dates are alike", 5, Due.of(120, 120, 109, 109, 121, 120, 101, 101, 121, 121),
            120, 120, 100, 100, 121, 120, 100, 100, 121, 121);
        Due.folds("order ahead of ids", 6, Due.of(120, 120, 117, 7, 121, 120, 113, 3, 121, 121, 113),
            120, 120, 3, 110, 121, 120, 7, 111, 121, 121, 110);
        Due.folds("ids by first coming after order", 7, Due.of(120, 117, 3, 112, 121, 112, 117),
            120, 3, 110, 111, 121, 111, 110);
    }

    private static void deepLists() {
        int[] deep = new int[60];
        for (int i = 0; i < 30; i++) {
            deep[i] = 120;
            deep[59 - i] = 121;
        }
        Due.folds("thirty deep", 7, deep, deep);
        int[] wide = new int[60];
        int[] ordered = new int[60];
        for (int i = 1; i < 59; i++) {
            wide[i] = 59 - i;
            ordered[i] = i;
        }
        wide[0] = ordered[0] = 120;
        wide[59] = ordered[59] = 121;
        Due.folds("fifty-eight parts", 7, wide, ordered);
    }

    private static void refusals() {
        GoldenKeeper x = new GoldenKeeper(7);
        Due.is("fold: row 8", x.fold(8, 0), Due.BAD);
        Due.is("fold: row -1", x.fold(-1, 0), Due.BAD);
        Due.is("fold: missing", x.fold(0, 0), Due.NULL);
        Due.fill(x, 0, 120, 3, 2, 121);
        Due.is("fold: before the first", x.fold(0, -1), Due.NONE);
        Due.is("fold: far", x.fold(0, Integer.MAX_VALUE), Due.NONE);
        Due.is("fold: 1", x.fold(0, 1), 2);
        x.keep(0, 0, 0);
        Due.tokens("fold: no row changes", x, 0, 0, 1, 120, 3, 2, 121);
        x.set(0, 0, 1);
        Due.is("fold: no answer, and not so many", x.fold(0, 9), Due.STATE);
    }

    private FoldTest() { }
}
