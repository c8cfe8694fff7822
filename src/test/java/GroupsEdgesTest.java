/** Boundary cases of GROUPS: what Terms 2 and promises 17 to 19 say of them, a sentence a method. */
public final class GroupsEdgesTest {
    public static void main(String[] args) {
        noGroups();
        oneGroupOfAll();
        shapesThatAreUnlike();
        shapesThatAreAlike();
        numberedByTheirFirstOnes();
        numberedFromTheBeginningOn();
        groupsAtTheirEnds();
        whatOfAGroup();
        groupRefusedWithoutAny();
        sidesOfAShape();
        shapeHasNotSoMany();
        shapeOfSixty();
        shapesAreFolded();
        Due.end("GroupsEdgesTest");
    }

    // "How many GROUPS there are."
    private static void noGroups() {
        GoldenKeeper x = new GoldenKeeper(0);
        Due.is("of a new object", x.groups(), 0);
        Due.give(x, 0, 0, 1);
        Due.is("NEW", x.groups(), 0);
        Due.keep(x, 0, 0, 1);
        Due.is("SAME", x.groups(), 0);
        Due.keep(x, 1, 0, 2);
        Due.is("STALE", x.groups(), 0);
        Due.keep(x, 0, 0);
        Due.is("CHANGED", x.groups(), 1);
        x.begin();
        Due.is("given no more", x.groups(), 0);
    }

    // "GROUPS: all CHANGES of one SHAPE"
    private static void oneGroupOfAll() {
        GoldenKeeper x = Due.allChanged();
        Due.is("one", x.groups(), 1);
        Due.is("of 36 CHANGES", x.group(0, 0), 36);
        Due.is("of the last", x.change(11, 2, 0, 4), 0);
        x.forget(0, 0);
        Due.is("of 35", x.group(0, 0), 35);
        Due.is("the first is of the next PLATFORM", x.group(0, 4), 1);
    }

    // "SHAPE of a CHANGE: the TOKENS that go, in order, and those that come."
    private static void shapesThatAreUnlike() {
        GoldenKeeper x = new GoldenKeeper(0);
        Due.keep(x, 0, 0, 1);
        Due.give(x, 0, 0);
        Due.keep(x, 1, 0);
        Due.give(x, 1, 0, 1);
        Due.keep(x, 2, 0, 1, 2);
        Due.give(x, 2, 0);
        Due.keep(x, 3, 0, 2, 1);
        Due.give(x, 3, 0);
        Due.keep(x, 4, 0, 1);
        Due.give(x, 4, 0, 2);
        Due.keep(x, 5, 0, 2);
        Due.give(x, 5, 0, 1);
        Due.keep(x, 6, 0);
        Due.give(x, 6, 0, 1, 2);
        Due.keep(x, 7, 0);
        Due.give(x, 7, 0, 2, 1);
        Due.keep(x, 8, 0, 1);
        Due.give(x, 8, 0, 3);
        Due.is("as many as CHANGES", x.groups(), 9);
        for (int name = 0; name < 9; name++) {
            Due.is("GROUP of " + name, x.change(name, 0, 0, 4), name);
            Due.is("of one CHANGE", x.group(name, 0), 1);
        }
    }

    // where a CHANGE stands is none of its SHAPE
    private static void shapesThatAreAlike() {
        GoldenKeeper x = new GoldenKeeper(0);
        Due.keep(x, 0, 0, 1, 2, 7, 1, 2);
        Due.give(x, 0, 0, 3, 7, 3);
        Due.keep(x, 11, 2, 8, 8, 1, 2);
        Due.give(x, 11, 2, 8, 8, 3);
        Due.is("one", x.groups(), 1);
        Due.is("of three", x.group(0, 0), 3);
    }

    // "numbered by their first ones: by NAMES, then PLATFORMS, then from the beginning on"
    private static void numberedByTheirFirstOnes() {
        GoldenKeeper x = new GoldenKeeper(0);
        int[][] order = {{11, 2}, {11, 0}, {5, 1}, {0, 2}, {0, 1}, {0, 0}};
        for (int k = 0; k < order.length; k++) {
            Due.keep(x, order[k][0], order[k][1]);
            Due.give(x, order[k][0], order[k][1], 50 + k);
        }
        Due.is("six", x.groups(), 6);
        for (int g = 0; g < 6; g++) {
            Due.is("TOKEN of GROUP " + g, x.shape(g, 1, 0), 55 - g);
            Due.is("NAME of GROUP " + g, x.group(g, 3), order[5 - g][0]);
            Due.is("PLATFORM of GROUP " + g, x.group(g, 4), order[5 - g][1]);
        }
        Due.give(x, 0, 0, 50);
        Due.is("the last one's SHAPE is the first now", x.change(11, 2, 0, 4), 0);
        Due.is("five", x.groups(), 5);
        Due.is("the first one's NAME", x.group(0, 3), 0);
    }

    private static void numberedFromTheBeginningOn() {
        GoldenKeeper x = new GoldenKeeper(0);
        Due.keep(x, 0, 0, 9, 1, 8, 2, 9, 3);
        Due.give(x, 0, 0, 1, 2, 3);
        Due.is("two", x.groups(), 2);
        Due.is("the first CHANGE", x.change(0, 0, 0, 4), 0);
        Due.is("the second", x.change(0, 0, 1, 4), 1);
        Due.is("the third, like the first", x.change(0, 0, 2, 4), 0);
        Due.is("which CHANGE it is", x.group(1, 5), 1);
        Due.is("which CHANGE it is", x.group(0, 5), 0);
    }

    // "Of a GROUP: .. BAD."
    private static void groupsAtTheirEnds() {
        GoldenKeeper x = new GoldenKeeper(0);
        Due.keep(x, 3, 1, Due.everyOther(98, 0));
        int[] given = Due.everyOther(99, 1);
        for (int i = 0, next = 50; i < given.length; i++) {
            given[i] = given[i] == 99 ? next++ : given[i];
        }
        Due.give(x, 3, 1, given);
        Due.is("GROUPS", x.groups(), 21);
        Due.ends("GROUP", 0, 20, g -> x.group(g, 0), g -> g == 0 ? 20 : 1);
        Due.ends("GROUP", 0, 20, g -> x.group(g, 5), g -> g == 0 ? 0 : 2 * g - 1);
        Due.ends("SHAPE", 0, 20, g -> x.shape(g, 1, 0), g -> g == 0 ? Due.NONE : 49 + g);
        for (int g : Due.of(21, -1, Integer.MIN_VALUE, Integer.MAX_VALUE)) {
            Due.is("approveAll: GROUP " + g, x.approveAll(0, g, 0), Due.BAD);
        }
        Due.is("approveAll: the last GROUP", x.approveAll(0, 20, 0), 0);
    }

    // "0 how many CHANGES, 1 how many TOKENS go, 2 how many come, 3 the first one's NAME, 4 its PLATFORM, 5 which CHANGE"
    private static void whatOfAGroup() {
        GoldenKeeper x = new GoldenKeeper(0);
        Due.keep(x, 11, 2, 1, 5, 2, 3, 5, 2, 3);
        Due.give(x, 11, 2, 5, 4, 5, 4);
        int[] due = {2, 2, 1, 11, 2, 1};
        Due.ends("what", 0, 5, what -> x.group(1, what), what -> due[what]);
    }

    private static void groupRefusedWithoutAny() {
        GoldenKeeper x = new GoldenKeeper(0);
        for (int g : Due.of(0, 1, -1, Integer.MAX_VALUE)) {
            Due.is("group", x.group(g, 0), Due.BAD);
            Due.is("shape", x.shape(g, 0, 0), Due.BAD);
            Due.is("approveAll", x.approveAll(0, g, 0), Due.BAD);
        }
    }

    // "TOKEN k of those that go (side = 0), come (1) by a GROUP"; "BAD: GROUP, side."
    private static void sidesOfAShape() {
        GoldenKeeper x = new GoldenKeeper(0);
        Due.keep(x, 0, 0, 1);
        Due.give(x, 0, 0, 2);
        Due.ends("side", 0, 1, side -> x.shape(0, side, 0), side -> side + 1);
        Due.is("side ahead of NONE", x.shape(0, 2, 5), Due.BAD);
        Due.is("GROUP ahead of NONE", x.shape(1, 0, 5), Due.BAD);
    }

    // "NONE: there are not so many."
    private static void shapeHasNotSoMany() {
        GoldenKeeper x = new GoldenKeeper(0);
        Due.keep(x, 0, 0, 1, 2, 9);
        Due.give(x, 0, 0, 3, 9, 4);
        int[][] many = {{2, 1}, {0, 1}};
        for (int g = 0; g < 2; g++) {
            for (int side = 0; side < 2; side++) {
                int n = many[g][side];
                Due.isTrue("the last", n == 0 || x.shape(g, side, n - 1) == (side == 0 ? 2 : 3 + g));
                for (int k : Due.of(n, n + 1, -1, Integer.MIN_VALUE, Integer.MAX_VALUE)) {
                    Due.is("TOKEN " + k + " of " + n, x.shape(g, side, k), Due.NONE);
                }
            }
        }
    }

    private static void shapeOfSixty() {
        GoldenKeeper x = new GoldenKeeper(0);
        Due.keep(x, 0, 0, new int[60]);
        Due.give(x, 0, 0, Due.upTo(1, 60));
        Due.is("go", x.group(0, 1), 60);
        Due.is("come", x.group(0, 2), 60);
        for (int k = 0; k < 60; k++) {
            Due.is("goes", x.shape(0, 0, k), 0);
            Due.is("comes", x.shape(0, 1, k), k + 1);
        }
        Due.is("no more go", x.shape(0, 0, 60), Due.NONE);
        Due.is("no more come", x.shape(0, 1, 60), Due.NONE);
    }

    // "DIFFERENCE .., from the KEPT to the given, FOLDED"
    private static void shapesAreFolded() {
        GoldenKeeper x = new GoldenKeeper(7);
        Due.keep(x, 0, 0, 120, 119, 2, 121, 105);
        Due.give(x, 0, 0, 120, 3, 118, 121, 106, 107);
        Due.is("goes", x.shape(0, 0, 0), 2);
        Due.is("comes", x.shape(0, 1, 0), 3);
        Due.is("comes", x.shape(1, 1, 0), 100);
        Due.is("two", x.groups(), 2);
    }

    private GroupsEdgesTest() { }
}
