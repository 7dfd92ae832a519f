/** Promises 13 to 17: place, entries, told, got, same. */
public final class EntriesTest {
    private static final Check CHECK = new Check("entries");

    public static void main(String[] args) {
        placeAndEntries();
        told();
        got();
        kept();
        same();
        readAgain();
        CHECK.end();
    }

    /** Three FILES: a short one, a LINK to it with a long NAME, one without CONTENTS. */
    private static SmallArchives three() {
        SmallArchives x = new SmallArchives();
        Check.add(x, "a", "\1\2\u00ff");
        Check.addLink(x, "a.longer.name", 0);
        Check.add(x, "empty", "");
        return x;
    }

    private static void placeAndEntries() {
        SmallArchives x = three();
        CHECK.due("13: ahead of any read", x.place(), SmallArchives.NONE);
        CHECK.due("14: ahead of any read", x.entries(), 0);
        x.write(2);
        CHECK.due("14: a write reads nothing", x.entries(), 0);
        x.read(0);
        CHECK.due("13: a FINDING at 0", x.place(), 0);
        x.read(2);
        CHECK.due("13: none", x.place(), SmallArchives.NONE);
        CHECK.due("14: all", x.entries(), 3);
        x.read(1);
        CHECK.due("14: the latest read alone", x.entries(), 0);
    }

    private static void told() {
        SmallArchives x = three();
        CHECK.due("15: ahead of any read", x.told(0, 0, 0), SmallArchives.OUTSIDE);
        int[][] begins = {{4 + 14 + 16, 4 + 14 + 16 + 18, 4 + 14 + 16 + 36}, {0, 12, 12 + 24 + 4}, {0, 20, 52}};
        for (int form = 0; form < 3; form++) {
            x.write(form);
            CHECK.due("15: read(" + form + ")", x.read(form), 3);
            String[] names = {"a", "a.longer.name", "empty"};
            int[] sizes = {3, 3, 0};
            int[] first = {0, form == 1 ? 0 : 1, 2};
            for (int i = 0; i < 3; i++) {
                CHECK.due("15: told(" + i + ", 0, 99)", x.told(i, 0, 99), names[i].length());
                CHECK.due("15: told(" + i + ", 1, -5)", x.told(i, 1, -5), sizes[i]);
                CHECK.due("15: told(" + i + ", 2, 0)", x.told(i, 2, 0), begins[form][i]);
                CHECK.due("15: told(" + i + ", 3, 0)", x.told(i, 3, 0), first[i]);
                CHECK.dueText("15: its NAME", Check.nameOf(x, i), names[i]);
            }
        }
        int[] badBytes = {Integer.MIN_VALUE, -1, 1, Integer.MAX_VALUE};
        for (int k : badBytes) {
            CHECK.due("15: told(0, 4, " + k + ")", x.told(0, 4, k), SmallArchives.NONE);
        }
        int[] badEntries = {Integer.MIN_VALUE, -1, 3, 12, 125, 126, Integer.MAX_VALUE};
        for (int i : badEntries) {
            for (int what = 0; what < 5; what++) {
                CHECK.due("15: told(" + i + ", " + what + ", 0)", x.told(i, what, 0), SmallArchives.OUTSIDE);
            }
        }
        int[] badWhats = {Integer.MIN_VALUE, -1, 5, Integer.MAX_VALUE};
        for (int what : badWhats) {
            CHECK.due("15: told(0, " + what + ", 0)", x.told(0, what, 0), SmallArchives.OUTSIDE);
        }
    }

    private static void got() {
        SmallArchives x = three();
        CHECK.dueThrow("16: ahead of any read", x, 0, 0);
        for (int form = 0; form < 3; form++) {
            x.write(form);
            x.read(form);
            CHECK.dueText("16: bytes", Check.bytesOf(x, 0), "\1\2\u00ff");
            CHECK.dueText("16: a LINK's bytes", Check.bytesOf(x, 1), "\1\2\u00ff");
            int[] badBytes = {Integer.MIN_VALUE, -1, 3, 60, Integer.MAX_VALUE};
            for (int k : badBytes) {
                CHECK.dueThrow("16: got(0, " + k + ")", x, 0, k);
                CHECK.dueThrow("16: got(1, " + k + ")", x, 1, k);
            }
            CHECK.dueThrow("16: got(2, 0)", x, 2, 0);
            int[] badEntries = {Integer.MIN_VALUE, -1, 3, 125, 126, Integer.MAX_VALUE};
            for (int i : badEntries) {
                CHECK.dueThrow("16: got(" + i + ", 0)", x, i, 0);
            }
        }
    }

    private static void kept() {
        SmallArchives x = three();
        x.write(0);
        x.read(0);
        x.poke(4 + 14 + 16 + 14, 77);
        x.cut(20);
        x.clear();
        CHECK.dueText("16: bytes stay as they were READ", Check.bytesOf(x, 0), "\1\2\u00ff");
        CHECK.dueText("15: NAMES stay as they were READ", Check.nameOf(x, 1), "a.longer.name");
        CHECK.due("14: entries() stays", x.entries(), 3);
    }

    /** FILES that differ in one point from the ENTRIES READ, which are b with B and c with C. */
    private static void dueOneOff(String name0, String bytes0, String name1, String bytes1) {
        SmallArchives x = new SmallArchives();
        Check.add(x, "b", "B");
        Check.add(x, "c", "C");
        x.write(1);
        x.read(1);
        CHECK.due("17: same()", x.same(), 1);
        x.clear();
        Check.add(x, name0, bytes0);
        Check.add(x, name1, bytes1);
        CHECK.due("17: same() of " + name0 + bytes0 + " " + name1 + bytes1, x.same(), 0);
    }

    /** A read begins with nothing of the one before it, however often. */
    private static void readAgain() {
        SmallArchives x = new SmallArchives();
        Check.addMost(x);
        for (int turn = 0; turn < 20; turn++) {
            int form = turn % 3;
            x.write(form);
            CHECK.due("12: read(" + form + ") again", x.read(form), 12);
            CHECK.due("17: same() again", x.same(), 1);
        }
    }

    private static void same() {
        SmallArchives x = three();
        CHECK.due("17: FILES, and none READ", x.same(), 0);
        for (int form = 0; form < 3; form++) {
            x.write(form);
            x.read(form);
            CHECK.due("17: written and READ by " + form, x.same(), 1);
        }
        x.data(5);
        CHECK.due("17: other bytes", x.same(), 0);
        x.write(0);
        x.read(0);
        CHECK.due("17: like again", x.same(), 1);
        x.poke(x.row(SmallArchives.NONE) - 2, 6);
        x.read(0);
        CHECK.due("17: one byte is another", x.same(), 0);
        x.write(0);
        x.poke(x.told(2, 2, 0), 'E');
        x.read(0);
        CHECK.due("17: one NAME is another", x.same(), 0);
        x.write(0);
        x.read(0);
        x.name('s');
        CHECK.due("17: a longer NAME", x.same(), 0);
        x.write(0);
        x.read(0);
        x.file();
        CHECK.due("17: one FILE more", x.same(), 0);
        x.clear();
        CHECK.due("17: no FILES", x.same(), 0);
        Check.add(x, "b", "B");
        Check.add(x, "c", "C");
        x.write(2);
        x.clear();
        Check.add(x, "c", "C");
        Check.add(x, "b", "B");
        x.read(2);
        CHECK.due("17: another order", x.same(), 0);
        dueOneOff("b", "C", "c", "C");
        dueOneOff("b", "B", "c", "B");
        dueOneOff("q", "B", "c", "C");
        dueOneOff("b", "B", "q", "C");
        dueOneOff("b", "BB", "c", "C");
        dueOneOff("bb", "B", "c", "C");
        dueOneOff("b", "B", "c", "");
        x.clear();
        Check.add(x, "b", "B");
        CHECK.due("17: an ENTRY more", x.same(), 0);
        x.cut(20);
        x.read(2);
        CHECK.due("17: as many as were READ", x.same(), 1);
        x.cut(19);
        x.read(2);
        CHECK.due("17: none behind a FINDING", x.same(), 0);
        x.clear();
        CHECK.due("17: none and none", x.same(), 1);
    }
}
