/** Promises 8 to 11: put, row, poke, cut. */
public final class RowTest {
    private static final Check CHECK = new Check("row");

    public static void main(String[] args) {
        put();
        row();
        poke();
        cut();
        CHECK.end();
    }

    private static void put() {
        SmallArchives x = new SmallArchives();
        int[] bad = {Integer.MIN_VALUE, -1, 256, Integer.MAX_VALUE};
        for (int v : bad) {
            CHECK.due("8: put(" + v + ")", x.put(v), SmallArchives.OUTSIDE);
        }
        CHECK.due("8: put(0)", x.put(0), 1);
        CHECK.due("8: put(255)", x.put(255), 2);
        CHECK.due("8: row(0)", x.row(0), 0);
        CHECK.due("8: row(1)", x.row(1), 255);
        CHECK.due("8: row(NONE)", x.row(SmallArchives.NONE), 2);
        // An object is promised for 512 calls alone: the longest FORM brings THE ROW near its limit.
        SmallArchives y = new SmallArchives();
        Check.addMost(y);
        CHECK.due("8: the longest ROW", y.write(2), 1452);
        for (int n = 1453; n <= 1500; n++) {
            CHECK.due("8: put()", y.put(n & 255), n);
        }
        CHECK.due("8: the 1501st", y.put(1), SmallArchives.FULL);
        CHECK.due("8: OUTSIDE ahead of FULL", y.put(256), SmallArchives.OUTSIDE);
        CHECK.due("8: row(1499)", y.row(1499), 1500 & 255);
        CHECK.due("8: row(1500)", y.row(1500), SmallArchives.OUTSIDE);
        CHECK.due("8: cut(1499)", y.cut(1499), 1);
        CHECK.due("8: put() behind a cut", y.put(77), 1500);
    }

    private static void row() {
        SmallArchives x = Check.withRow("abc");
        CHECK.due("9: row(NONE)", x.row(SmallArchives.NONE), 3);
        CHECK.due("9: row(0)", x.row(0), 'a');
        CHECK.due("9: row(2)", x.row(2), 'c');
        int[] bad = {Integer.MIN_VALUE, -3, -2, 3, 1499, 1500, Integer.MAX_VALUE};
        for (int i : bad) {
            CHECK.due("9: row(" + i + ")", x.row(i), SmallArchives.OUTSIDE);
        }
    }

    private static void poke() {
        SmallArchives x = Check.withRow("abc");
        CHECK.due("10: poke(1, 255)", x.poke(1, 255), 'b');
        CHECK.due("10: poke(1, 0)", x.poke(1, 0), 255);
        CHECK.due("10: row(1)", x.row(1), 0);
        CHECK.due("10: poke(0, 1)", x.poke(0, 1), 'a');
        CHECK.due("10: row(0)", x.row(0), 1);
        CHECK.due("10: poke(0, 'a')", x.poke(0, 'a'), 1);
        CHECK.due("10: poke(2, 9)", x.poke(2, 9), 'c');
        CHECK.due("10: poke(2, 'c')", x.poke(2, 'c'), 9);
        int[] badPlaces = {Integer.MIN_VALUE, -1, 3, 1500, Integer.MAX_VALUE};
        for (int i : badPlaces) {
            CHECK.due("10: poke(" + i + ", 1)", x.poke(i, 1), SmallArchives.OUTSIDE);
        }
        int[] badBytes = {Integer.MIN_VALUE, -1, 256, Integer.MAX_VALUE};
        for (int v : badBytes) {
            CHECK.due("10: poke(0, " + v + ")", x.poke(0, v), SmallArchives.OUTSIDE);
        }
        CHECK.dueText("10: THE ROW", Check.rowOf(x), "a\0c");
    }

    private static void cut() {
        SmallArchives x = Check.withRow("abcde");
        int[] bad = {Integer.MIN_VALUE, -1, 6, 1500, Integer.MAX_VALUE};
        for (int n : bad) {
            CHECK.due("11: cut(" + n + ")", x.cut(n), SmallArchives.OUTSIDE);
        }
        CHECK.due("11: cut(5)", x.cut(5), 0);
        CHECK.due("11: cut(3)", x.cut(3), 2);
        CHECK.dueText("11: THE ROW", Check.rowOf(x), "abc");
        CHECK.due("11: row(3)", x.row(3), SmallArchives.OUTSIDE);
        CHECK.due("11: cut(4)", x.cut(4), SmallArchives.OUTSIDE);
        CHECK.due("11: cut(0)", x.cut(0), 3);
        CHECK.due("11: cut(0) again", x.cut(0), 0);
        CHECK.due("11: put()", x.put('z'), 1);
        CHECK.due("11: row(0)", x.row(0), 'z');
    }
}
