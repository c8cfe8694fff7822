/** Promises 1 to 5, 29 (its ROWS and RULES) and 30. */
public final class RowsTest {
    public static void main(String[] args) {
        newObject();
        row();
        set();
        copy();
        drop();
        status();
        Due.end("RowsTest");
    }

    private static void newObject() {
        GoldenKeeper x = new GoldenKeeper(0);
        for (int what = 0; what <= 6; what++) {
            Due.is("new: count " + what, x.count(what), 0);
        }
        Due.is("new: states 0", x.states(0), 36);
        Due.is("new: status", x.status(), 0);
        Due.is("new: undo", x.undo(), Due.NONE);
        Due.is("new: trace", x.trace(0), Due.NONE);
        for (int row = 0; row < 8; row++) {
            Due.is("new: row missing", x.drop(row), Due.NULL);
        }
        Due.is("rules: lowest three of -1", new GoldenKeeper(-1).count(6), 7);
        Due.is("rules: lowest three of 8", new GoldenKeeper(8).count(6), 0);
        Due.is("rules: lowest three of 13", new GoldenKeeper(13).count(6), 5);
        Due.is("count: -1", x.count(-1), Due.BAD);
        Due.is("count: 7", x.count(7), Due.BAD);
    }

    private static void row() {
        GoldenKeeper x = new GoldenKeeper(0);
        Due.is("row: 0 items", x.row(0, 0, 0), 0);
        Due.is("row: 60 items", x.row(7, 2, 60), 60);
        Due.is("row: count", x.count(0), 2);
        Due.is("row: -1", x.row(-1, 0, 0), Due.BAD);
        Due.is("row: 8", x.row(8, 0, 0), Due.BAD);
        Due.is("row: lane -1", x.row(0, -1, 0), Due.BAD);
        Due.is("row: lane 3", x.row(0, 3, -1), Due.BAD);
        Due.is("row: 61 items", x.row(0, 0, 61), Due.BAD);
        Due.is("row: fewer than none", x.row(0, 0, Integer.MIN_VALUE), Due.SIZE);
        x.set(7, 59, 5);
        Due.is("row: SIZE changes nothing", x.row(7, 0, -1), Due.SIZE);
        Due.is("row: still 60", x.drop(7), 60);
        x.row(1, 2, 2);
        x.set(1, 1, 9);
        x.row(1, 2, 3);
        Due.is("row: in place, 0 at first", x.fold(1, 1), 0);
        Due.is("row: in place, its end", x.fold(1, 3), Due.NONE);
    }

    private static void set() {
        GoldenKeeper x = new GoldenKeeper(0);
        Due.is("set: row 8", x.set(8, 0, 0), Due.BAD);
        Due.is("set: row -1", x.set(-1, 0, 0), Due.BAD);
        Due.is("set: missing, and no place", x.set(0, -1, 0), Due.NULL);
        x.row(0, 0, 2);
        x.row(1, 1, 2);
        x.row(2, 2, 2);
        Due.is("set: byte 127", x.set(0, 0, 127), 127);
        Due.is("set: byte 128", x.set(0, 0, 128), -128);
        Due.is("set: byte 256", x.set(0, 0, 256), 0);
        Due.is("set: byte -129", x.set(0, 0, -129), 127);
        Due.is("set: short 32768", x.set(1, 1, 32768), -32768);
        Due.is("set: short 65541", x.set(1, 1, 65541), 5);
        Due.is("set: int", x.set(2, 1, Integer.MIN_VALUE), Integer.MIN_VALUE);
        Due.is("set: int max", x.set(2, 1, Integer.MAX_VALUE), Integer.MAX_VALUE);
        Due.is("set: place -1", x.set(2, -1, 0), Due.PLACE);
        Due.is("set: place 2", x.set(2, 2, 0), Due.PLACE);
        Due.is("set: place far", x.set(2, Integer.MAX_VALUE, 0), Due.PLACE);
    }

    private static void copy() {
        GoldenKeeper x = new GoldenKeeper(0);
        Due.fill(x, 0, 1, 2, 3, 4, 5);
        Due.is("copy: row 8", x.copy(8, 0, 0, 0, 0), Due.BAD);
        Due.is("copy: row -1", x.copy(0, 0, -1, 0, 0), Due.BAD);
        Due.is("copy: missing", x.copy(0, -1, 1, 0, 0), Due.NULL);
        Due.is("copy: missing", x.copy(1, -1, 0, 0, 0), Due.NULL);
        x.row(1, 1, 5);
        Due.is("copy: two lanes, and no place", x.copy(0, -1, 1, 0, 0), Due.STORE);
        x.row(1, 2, 3);
        Due.is("copy: i below 0", x.copy(0, -1, 1, 0, 0), Due.PLACE);
        Due.is("copy: j below 0", x.copy(0, 0, 1, -1, 0), Due.PLACE);
        Due.is("copy: n below 0", x.copy(0, 0, 1, 0, -1), Due.PLACE);
        Due.is("copy: n least", x.copy(0, 0, 1, 0, Integer.MIN_VALUE), Due.PLACE);
        Due.is("copy: beyond the first", x.copy(1, 2, 0, 0, 2), Due.PLACE);
        Due.is("copy: beyond the second", x.copy(0, 0, 1, 0, 4), Due.PLACE);
        Due.is("copy: sum beyond an int", x.copy(0, 1, 1, 1, Integer.MAX_VALUE), Due.PLACE);
        Due.is("copy: place beyond, none", x.copy(0, 6, 1, 0, 0), Due.PLACE);
        Due.is("copy: at both ends, none", x.copy(0, 5, 1, 3, 0), 0);
        Due.is("copy: some", x.copy(0, 3, 1, 1, 2), 2);
        Due.is("copy: left alone", x.fold(1, 0), 0);
        Due.is("copy: first", x.fold(1, 1), 4);
        Due.is("copy: second", x.fold(1, 2), 5);
        Due.is("copy: onto itself, up", x.copy(0, 0, 0, 1, 4), 4);
        for (int i = 0; i < 5; i++) {
            Due.is("copy: as they were ahead, up " + i, x.fold(0, i), i == 0 ? 1 : i);
        }
        Due.is("copy: onto itself, down", x.copy(0, 2, 0, 1, 3), 3);
        Due.is("copy: as they were ahead, down", x.fold(0, 1), 2);
        Due.is("copy: as they were ahead, down", x.fold(0, 3), 4);
    }

    private static void drop() {
        GoldenKeeper x = new GoldenKeeper(0);
        Due.is("drop: row 8", x.drop(8), Due.BAD);
        Due.is("drop: row -1", x.drop(-1), Due.BAD);
        Due.is("drop: missing", x.drop(3), Due.NULL);
        x.row(3, 1, 17);
        Due.is("drop: 17", x.drop(3), 17);
        Due.is("drop: missing again", x.drop(3), Due.NULL);
        Due.is("drop: set", x.set(3, 0, 0), Due.NULL);
        Due.is("drop: count", x.count(0), 0);
    }

    private static void status() {
        GoldenKeeper x = new GoldenKeeper(0);
        x.drop(0);
        Due.is("status: NULL", x.status(), 1);
        x.row(0, 0, 1);
        Due.is("status: row has none", x.status(), 0);
        x.set(0, 1, 0);
        Due.is("status: PLACE", x.status(), 2);
        x.set(9, 1, 0);
        Due.is("status: BAD leaves it", x.status(), 2);
        x.set(0, 0, 5);
        Due.is("status: set has none", x.status(), 0);
        x.row(0, 0, -1);
        Due.is("status: SIZE", x.status(), 4);
        Due.is("status: fold", x.fold(0, 7), Due.NONE);
        Due.is("status: NONE has none", x.status(), 0);
        x.row(1, 1, 1);
        x.copy(0, 0, 1, 0, 1);
        Due.is("status: STORE", x.status(), 5);
        x.set(0, 0, 120);
        x.copy(0, 0, 1, 0, 1);
        Due.is("status: fold STATE", x.fold(0, 0), Due.STATE);
        Due.is("status: keep STATE", x.keep(0, 0, 0), Due.STATE);
        Due.is("status: give STATE", x.give(0, 0, 0), Due.STATE);
        Due.is("status: as STATE", x.as(0, 0, 0), Due.STATE);
        Due.is("status: as BAD", x.as(0, 0, 4), Due.BAD);
        x.state(0, 0);
        x.count(0);
        x.begin();
        x.undo();
        Due.is("status: these leave it", x.status(), 5);
        x.copy(0, 0, 0, 0, 1);
        Due.is("status: copy has none", x.status(), 0);
        x.keep(0, 0, 2);
        Due.is("status: keep NULL", x.status(), 1);
        x.keep(0, 0, 1);
        Due.is("status: keep has none", x.status(), 0);
        x.as(0, 0, 1);
        Due.is("status: KIND", x.status(), 3);
        x.as(0, 0, 0);
        Due.is("status: as has none", x.status(), 0);
        x.give(0, 0, 2);
        Due.is("status: give NULL", x.status(), 1);
        x.give(0, 0, 1);
        Due.is("status: give has none", x.status(), 0);
        x.fold(2, 0);
        Due.is("status: fold NULL", x.status(), 1);
        x.drop(1);
        Due.is("status: drop has none", x.status(), 0);
    }

    private RowsTest() { }
}
