/** THE ROW and promises 8 to 11: each sentence that names an edge or a refusal has a method of its own. */
public final class BoundsRowTest {
    private static final Check CHECK = new Check("bounds of the row");
    private static final int NONE = SmallArchives.NONE, OUTSIDE = SmallArchives.OUTSIDE, FULL = SmallArchives.FULL;
    private static final int[] FAR = {Integer.MIN_VALUE, Integer.MIN_VALUE + 1, -65536, 65536, Integer.MAX_VALUE};

    public static void main(String[] args) {
        bytes();
        atMost();
        putOutside();
        putFull();
        rowNone();
        rowOutside();
        pokeOutside();
        pokeNoByte();
        cutAll();
        cutOutside();
        lastCall();
        CHECK.end();
    }

    private static void bytes() {
        CHECK.sentence("THE ROW has bytes 0 to 255");
        for (int v = -300; v <= 600; v++) {
            dueBytes(v, v >= 0 && v <= 255);
        }
        for (int v : FAR) {
            dueBytes(v, false);
        }
    }

    private static void dueBytes(int v, boolean may) {
        SmallArchives x = new SmallArchives();
        CHECK.due("put(" + v + ")", x.put(v), may ? 1 : OUTSIDE);
        CHECK.due("row(0)", x.row(0), may ? v : OUTSIDE);
        SmallArchives y = Check.withRow("x");
        CHECK.due("poke(0, " + v + ")", y.poke(0, v), may ? 'x' : OUTSIDE);
        CHECK.due("row(0)", y.row(0), may ? v : 'x');
    }

    /** THE ROW with 1452 bytes: no FORM comes to more, and put() alone has not the calls. */
    private static SmallArchives nearlyFull() {
        SmallArchives x = new SmallArchives();
        Check.addMost(x);
        x.write(2);
        return x;
    }

    private static SmallArchives full() {
        SmallArchives x = nearlyFull();
        for (int n = 1453; n <= 1500; n++) {
            x.put(n & 255);
        }
        return x;
    }

    private static void atMost() {
        CHECK.sentence("THE ROW has .. 1500 at most");
        SmallArchives x = nearlyFull();
        for (int n = 1453; n <= 1500; n++) {
            CHECK.due("put()", x.put(n & 255), n);
        }
        CHECK.due("the 1501st", x.put(0), FULL);
        CHECK.due("how many", x.row(NONE), 1500);
        CHECK.due("the last one", x.row(1499), 1500 & 255);
        CHECK.due("there is none behind it", x.row(1500), OUTSIDE);
    }

    private static void putOutside() {
        CHECK.sentence("Promise 8: OUTSIDE");
        SmallArchives x = Check.withRow("ab");
        CHECK.due("put(-1)", x.put(-1), OUTSIDE);
        CHECK.due("put(256)", x.put(256), OUTSIDE);
        CHECK.due("THE ROW has", x.row(NONE), 2);
        CHECK.due("put(255)", x.put(255), 3);
        CHECK.due("OUTSIDE is ahead of FULL", full().put(256), OUTSIDE);
        CHECK.due("OUTSIDE is ahead of FULL", full().put(-1), OUTSIDE);
    }

    private static void putFull() {
        CHECK.sentence("Promise 8: FULL");
        SmallArchives x = full();
        CHECK.due("put(1)", x.put(1), FULL);
        CHECK.due("the last one stays", x.row(1499), 1500 & 255);
        CHECK.due("cut(1499)", x.cut(1499), 1);
        CHECK.due("one has room again", x.put(7), 1500);
        CHECK.due("it is there", x.row(1499), 7);
        CHECK.due("but no more", x.put(8), FULL);
    }

    private static void rowNone() {
        CHECK.sentence("Promise 9: i = NONE: how many it has");
        SmallArchives x = new SmallArchives();
        CHECK.due("empty", x.row(NONE), 0);
        for (int n = 1; n <= 300; n++) {
            x.put(0);
        }
        CHECK.due("300", x.row(NONE), 300);
        CHECK.due("full", full().row(NONE), 1500);
    }

    private static void rowOutside() {
        CHECK.sentence("Promise 9: Byte i of THE ROW; .. OUTSIDE");
        SmallArchives x = Check.withRow("abc");
        int[] due = {OUTSIDE, OUTSIDE, 3, 'a', 'b', 'c', OUTSIDE, OUTSIDE};
        for (int i = -3; i <= 4; i++) {
            CHECK.due("row(" + i + ")", x.row(i), due[i + 3]);
        }
        for (int i : FAR) {
            CHECK.due("row(" + i + ")", x.row(i), OUTSIDE);
        }
        x.cut(2);
        CHECK.due("a byte that went", x.row(2), OUTSIDE);
        x.cut(0);
        CHECK.due("an empty ROW", x.row(0), OUTSIDE);
        CHECK.due("a full ROW", full().row(1500), OUTSIDE);
    }

    private static void pokeOutside() {
        CHECK.sentence("Promise 10: A byte of THE ROW becomes another one: what it was. OUTSIDE");
        SmallArchives x = Check.withRow("abc");
        for (int i : new int[] {-3, -2, -1, 3, 4, 1499, 1500}) {
            CHECK.due("poke(" + i + ", 1)", x.poke(i, 1), OUTSIDE);
        }
        for (int i : FAR) {
            CHECK.due("poke(" + i + ", 1)", x.poke(i, 1), OUTSIDE);
        }
        CHECK.dueText("THE ROW", Check.rowOf(x), "abc");
        CHECK.due("the first", x.poke(0, 255), 'a');
        CHECK.due("the last", x.poke(2, 0), 'c');
        CHECK.due("by the same", x.poke(1, 'b'), 'b');
        CHECK.dueText("THE ROW", Check.rowOf(x), "\u00ffb\0");
        SmallArchives y = full();
        CHECK.due("the last of a full one", y.poke(1499, 9), 1500 & 255);
        CHECK.due("behind it", y.poke(1500, 9), OUTSIDE);
        x.cut(2);
        CHECK.due("a byte that went", x.poke(2, 9), OUTSIDE);
    }

    private static void pokeNoByte() {
        CHECK.sentence("Promise 10: OUTSIDE (there is no such .. number)");
        SmallArchives x = Check.withRow("abc");
        CHECK.due("poke(1, -1)", x.poke(1, -1), OUTSIDE);
        CHECK.due("poke(1, 256)", x.poke(1, 256), OUTSIDE);
        CHECK.due("poke(3, 256)", x.poke(3, 256), OUTSIDE);
        CHECK.dueText("THE ROW", Check.rowOf(x), "abc");
    }

    private static void cutAll() {
        CHECK.sentence("Promise 11: THE ROW keeps its first n bytes: how many went");
        for (int n = 0; n <= 5; n++) {
            SmallArchives x = Check.withRow("abcde");
            CHECK.due("cut(" + n + ")", x.cut(n), 5 - n);
            CHECK.dueText("THE ROW", Check.rowOf(x), "abcde".substring(0, n));
            CHECK.due("cut(" + n + ") again", x.cut(n), 0);
            CHECK.due("put()", x.put('z'), n + 1);
            CHECK.dueText("THE ROW", Check.rowOf(x), "abcde".substring(0, n) + "z");
        }
        CHECK.due("cut(0) of a full one", full().cut(0), 1500);
        CHECK.due("cut(1500) of a full one", full().cut(1500), 0);
        CHECK.due("cut(0) of an empty one", new SmallArchives().cut(0), 0);
    }

    private static void cutOutside() {
        CHECK.sentence("Promise 11: OUTSIDE");
        SmallArchives x = Check.withRow("abcde");
        for (int n : new int[] {-2, -1, 6, 7, 1500, 1501}) {
            CHECK.due("cut(" + n + ")", x.cut(n), OUTSIDE);
        }
        for (int n : FAR) {
            CHECK.due("cut(" + n + ")", x.cut(n), OUTSIDE);
        }
        CHECK.dueText("THE ROW", Check.rowOf(x), "abcde");
        x.cut(3);
        CHECK.due("what went does not come back", x.cut(4), OUTSIDE);
        CHECK.due("a full one", full().cut(1501), OUTSIDE);
        CHECK.due("an empty one", new SmallArchives().cut(1), OUTSIDE);
    }

    private static void lastCall() {
        CHECK.sentence("An object is used for at most 512 calls");
        SmallArchives x = new SmallArchives();
        for (int n = 1; n <= 512; n++) {
            CHECK.due("call " + n, x.put(n & 255), n);
        }
        SmallArchives y = new SmallArchives();
        Check.add(y, "a", "A");
        for (int call = 4; call <= 511; call += 2) {
            CHECK.due("call " + call, y.write(1), 34);
            CHECK.due("call " + (call + 1), y.read(1), 1);
        }
        CHECK.due("call 512", y.same(), 1);
    }
}
