/** Part 1 and promises 1 to 6: each sentence that names an edge or a refusal has a method of its own. */
public final class BoundsFilesTest {
    private static final Check CHECK = new Check("bounds of files");
    private static final int NONE = SmallArchives.NONE, OUTSIDE = SmallArchives.OUTSIDE, NO = SmallArchives.NO,
        FULL = SmallArchives.FULL;
    private static final int[] FAR = {Integer.MIN_VALUE, Integer.MIN_VALUE + 1, -65536, 65536, Integer.MAX_VALUE};

    public static void main(String[] args) {
        newObject();
        filesTwelveAtMost();
        nameOneToTwenty();
        nameBytes();
        trailerAlone();
        contentsSixtyAtMost();
        contentsBytes();
        linkToElder();
        linkHasContents();
        fileBehindNameless();
        fileFull();
        nameWithoutFile();
        nameFull();
        dataOutside();
        dataOfLink();
        dataFull();
        linkOutside();
        linkToLink();
        linkWithContents();
        linkThatIsOne();
        clearOfNoneAndAll();
        CHECK.end();
    }

    private static void newObject() {
        CHECK.sentence("Promise 1: No FILES; THE ROW is empty.");
        CHECK.due("clear()", new SmallArchives().clear(), 0);
        CHECK.due("row(NONE)", new SmallArchives().row(NONE), 0);
        CHECK.due("row(0)", new SmallArchives().row(0), OUTSIDE);
        CHECK.due("cut(0)", new SmallArchives().cut(0), 0);
        CHECK.due("cut(1)", new SmallArchives().cut(1), OUTSIDE);
        CHECK.due("poke(0, 0)", new SmallArchives().poke(0, 0), OUTSIDE);
        CHECK.due("file()", new SmallArchives().file(), 0);
        CHECK.due("put(0)", new SmallArchives().put(0), 1);
    }

    private static void filesTwelveAtMost() {
        CHECK.sentence("FILES, 12 at most, numbered from 0 on");
        SmallArchives x = new SmallArchives();
        for (int i = 0; i < 12; i++) {
            CHECK.due("file() " + i, x.file(), i);
            x.name('n');
        }
        CHECK.due("the 13th", x.file(), FULL);
        CHECK.due("there are 12", x.clear(), 12);
        CHECK.due("from 0 on once more", x.file(), 0);
    }

    private static void nameOneToTwenty() {
        CHECK.sentence("a NAME (1 to 20 bytes");
        for (int n = 0; n <= 21; n++) {
            SmallArchives x = new SmallArchives();
            x.file();
            for (int k = 1; k <= n; k++) {
                CHECK.due("name(), the " + k + "th", x.name('a' + k), k <= 20 ? k : FULL);
            }
            CHECK.due("write(2) with a NAME of " + n, x.write(2), n == 0 ? NO : 13 + Math.min(n, 20));
            x.read(2);
            CHECK.dueText("it", x.entries() == 0 ? "" : Check.nameOf(x, 0),
                    "bcdefghijklmnopqrstu".substring(0, Math.min(n, 20)));
        }
    }

    private static void nameBytes() {
        CHECK.sentence("33 to 126 but /");
        for (int c = -300; c <= 600; c++) {
            dueName(c, c >= 33 && c <= 126 && c != '/' ? 1 : OUTSIDE);
        }
        for (int c : FAR) {
            dueName(c, OUTSIDE);
        }
    }

    private static void dueName(int c, int answer) {
        SmallArchives x = new SmallArchives();
        x.file();
        CHECK.due("name(" + c + ")", x.name(c), answer);
        CHECK.due("one more", x.name('z'), Math.max(0, answer) + 1);
    }

    private static void trailerAlone() {
        CHECK.sentence("TRAILER! alone is none");
        SmallArchives x = new SmallArchives();
        Check.add(x, "TRAILER", "");
        CHECK.due("TRAILER", x.write(1), 10 + 8 + 20);
        CHECK.due("name('!')", x.name('!'), 8);
        CHECK.due("TRAILER!", x.write(1), NO);
        CHECK.due("name('!')", x.name('!'), 9);
        CHECK.due("TRAILER!!", x.write(1), 10 + 10 + 20);
        SmallArchives y = new SmallArchives();
        Check.add(y, "xTRAILER!", "");
        CHECK.due("xTRAILER!", y.write(1), 10 + 10 + 20);
    }

    private static void contentsSixtyAtMost() {
        CHECK.sentence("CONTENTS (60 bytes at most");
        for (int n = 0; n <= 61; n++) {
            SmallArchives x = new SmallArchives();
            Check.add(x, "c", "");
            for (int k = 1; k <= n; k++) {
                CHECK.due("data(), the " + k + "th", x.data(k), k <= 60 ? k : FULL);
            }
            x.write(0);
            CHECK.due("read(0)", x.read(0), 1);
            CHECK.due("how many of " + n, x.told(0, 1, 0), Math.min(n, 60));
            CHECK.due("same()", x.same(), 1);
        }
    }

    private static void contentsBytes() {
        CHECK.sentence("CONTENTS (.. 0 to 255)");
        for (int v = -300; v <= 600; v++) {
            dueData(v, v >= 0 && v <= 255 ? 1 : OUTSIDE);
        }
        for (int v : FAR) {
            dueData(v, OUTSIDE);
        }
    }

    private static void dueData(int v, int answer) {
        SmallArchives x = new SmallArchives();
        Check.add(x, "c", "");
        CHECK.due("data(" + v + ")", x.data(v), answer);
        x.write(0);
        x.read(0);
        CHECK.dueText("CONTENTS", Check.bytesOf(x, 0), answer == 1 ? "" + (char) v : "");
    }

    /** Files a, b (a LINK to a), c, and one more. */
    private static SmallArchives four() {
        SmallArchives x = new SmallArchives();
        Check.add(x, "a", "A");
        Check.addLink(x, "b", 0);
        Check.add(x, "c", "C");
        x.file();
        return x;
    }

    private static void linkToElder() {
        CHECK.sentence("A FILE may be a LINK to an elder one that is none itself");
        int[] due = {1, NO, 1, OUTSIDE, OUTSIDE};
        for (int to = 0; to < due.length; to++) {
            CHECK.due("link(" + to + ")", four().link(to), due[to]);
        }
        SmallArchives x = new SmallArchives();
        for (int i = 0; i < 11; i++) {
            Check.add(x, "n", "");
        }
        x.file();
        CHECK.due("the 12th to the 11th", x.link(10), 1);
    }

    private static void linkHasContents() {
        CHECK.sentence("it has the CONTENTS of that");
        for (int size : new int[] {0, 1, 59, 60}) {
            SmallArchives x = new SmallArchives();
            Check.add(x, "a", Check.times("d", size));
            Check.addLink(x, "b", 0);
            for (int form = 0; form < 3; form++) {
                x.write(form);
                x.read(form);
                CHECK.dueText("read(" + form + ")", Check.bytesOf(x, 1), Check.times("d", size));
                CHECK.due("same()", x.same(), 1);
            }
        }
    }

    private static void fileBehindNameless() {
        CHECK.sentence("Promise 2: NO: the last one has no NAME");
        SmallArchives x = new SmallArchives();
        CHECK.due("there is none", x.file(), 0);
        CHECK.due("without a NAME", x.file(), NO);
        x.data(1);
        CHECK.due("CONTENTS are no NAME", x.file(), NO);
        x.name('/');
        CHECK.due("a refused byte is no NAME", x.file(), NO);
        x.name('a');
        CHECK.due("a NAME of 1", x.file(), 1);
        x.link(0);
        CHECK.due("a LINK without a NAME", x.file(), NO);
        CHECK.due("there are 2", x.clear(), 2);
    }

    private static void fileFull() {
        CHECK.sentence("Promise 2: NO: ..; FULL");
        SmallArchives x = new SmallArchives();
        for (int i = 0; i < 11; i++) {
            Check.add(x, "n", "");
        }
        CHECK.due("the 12th", x.file(), 11);
        CHECK.due("12 and the last without a NAME", x.file(), NO);
        x.name('n');
        CHECK.due("12 with NAMES", x.file(), FULL);
        CHECK.due("again", x.file(), FULL);
        CHECK.due("the last is as it was", x.name('n'), 2);
        CHECK.due("there are 12", x.clear(), 12);
    }

    private static void nameWithoutFile() {
        CHECK.sentence("Promise 3: OUTSIDE: there is none, a byte that may not be");
        SmallArchives x = new SmallArchives();
        CHECK.due("no FILE", x.name('a'), OUTSIDE);
        CHECK.due("no FILE, no byte", x.name('/'), OUTSIDE);
        CHECK.due("nothing came", x.clear(), 0);
        Check.add(x, "a", "");
        x.clear();
        CHECK.due("no FILE any more", x.name('a'), OUTSIDE);
        x.file();
        CHECK.due("a byte that may not be", x.name(' '), OUTSIDE);
        CHECK.due("how many it has", x.name('a'), 1);
    }

    private static void nameFull() {
        CHECK.sentence("Promise 3: FULL: 20");
        SmallArchives x = new SmallArchives();
        Check.add(x, Check.times("n", 19), "");
        CHECK.due("the 20th", x.name('m'), 20);
        CHECK.due("the 21st", x.name('o'), FULL);
        CHECK.due("OUTSIDE is ahead of FULL", x.name(127), OUTSIDE);
        x.write(2);
        x.read(2);
        CHECK.dueText("it stays", Check.nameOf(x, 0), Check.times("n", 19) + "m");
        CHECK.due("the next FILE has room", x.file() + x.name('a'), 2);
    }

    private static void dataOutside() {
        CHECK.sentence("Promise 4: OUTSIDE");
        SmallArchives x = new SmallArchives();
        CHECK.due("no FILE", x.data(0), OUTSIDE);
        CHECK.due("no FILE, no byte", x.data(256), OUTSIDE);
        x.file();
        CHECK.due("below 0", x.data(-1), OUTSIDE);
        CHECK.due("above 255", x.data(256), OUTSIDE);
        CHECK.due("how many it has", x.data(0), 1);
        x.clear();
        CHECK.due("no FILE any more", x.data(0), OUTSIDE);
    }

    private static void dataOfLink() {
        CHECK.sentence("Promise 4: NO: it is a LINK");
        for (int size : new int[] {0, 1, 60}) {
            SmallArchives x = new SmallArchives();
            Check.add(x, "a", Check.times("d", size));
            Check.addLink(x, "b", 0);
            CHECK.due("to one of " + size, x.data(7), NO);
            CHECK.due("OUTSIDE is ahead of NO", x.data(256), OUTSIDE);
            x.write(1);
            x.read(1);
            CHECK.due("neither has more", x.told(0, 1, 0) + x.told(1, 1, 0), 2 * size);
        }
    }

    private static void dataFull() {
        CHECK.sentence("Promise 4: FULL: 60");
        SmallArchives x = new SmallArchives();
        Check.add(x, "a", Check.times("d", 59));
        CHECK.due("the 60th", x.data('e'), 60);
        CHECK.due("the 61st", x.data('f'), FULL);
        CHECK.due("OUTSIDE is ahead of FULL", x.data(-1), OUTSIDE);
        x.write(2);
        x.read(2);
        CHECK.dueText("they stay", Check.bytesOf(x, 0), Check.times("d", 59) + "e");
        x.file();
        CHECK.due("the next FILE has room", x.data(0), 1);
    }

    private static void linkOutside() {
        CHECK.sentence("Promise 5: OUTSIDE: no such elder one");
        SmallArchives none = new SmallArchives();
        for (int to : new int[] {-2, -1, 0, 1}) {
            CHECK.due("no FILES, link(" + to + ")", none.link(to), OUTSIDE);
        }
        SmallArchives one = new SmallArchives();
        one.file();
        CHECK.due("itself", one.link(0), OUTSIDE);
        SmallArchives x = four();
        for (int to : new int[] {-1, 3, 4, 11, 12}) {
            CHECK.due("link(" + to + ")", x.link(to), OUTSIDE);
        }
        for (int to : FAR) {
            CHECK.due("link(" + to + ")", x.link(to), OUTSIDE);
        }
        x.data(1);
        CHECK.due("OUTSIDE is ahead of NO", x.link(3), OUTSIDE);
        x.clear();
        CHECK.due("no FILES any more", x.link(0), OUTSIDE);
    }

    private static void linkToLink() {
        CHECK.sentence("Promise 5: NO: that is a LINK");
        SmallArchives x = four();
        CHECK.due("link(1)", x.link(1), NO);
        CHECK.due("it takes CONTENTS all the same", x.data(1), 1);
        SmallArchives y = four();
        y.link(1);
        CHECK.due("or a LINK that may be", y.link(0), 1);
    }

    private static void linkWithContents() {
        CHECK.sentence("Promise 5: or the last one has CONTENTS");
        SmallArchives x = four();
        x.data(0);
        CHECK.due("one byte", x.link(0), NO);
        CHECK.due("it goes on", x.data(0), 2);
        x.name('d');
        x.write(0);
        x.read(0);
        CHECK.dueText("it has its own", Check.bytesOf(x, 3), "\0\0");
    }

    private static void linkThatIsOne() {
        CHECK.sentence("Promise 5: or is one");
        SmallArchives x = four();
        x.name('d');
        x.link(2);
        CHECK.due("link(0)", x.link(0), NO);
        CHECK.due("link(2)", x.link(2), NO);
        x.write(0);
        x.read(0);
        CHECK.dueText("it stays what it is", Check.bytesOf(x, 3), "C");
        SmallArchives y = new SmallArchives();
        Check.add(y, "empty", "");
        Check.addLink(y, "b", 0);
        CHECK.due("a LINK to one without CONTENTS", y.link(0), NO);
    }

    private static void clearOfNoneAndAll() {
        CHECK.sentence("Promise 6: FILES are gone: how many there were");
        SmallArchives x = new SmallArchives();
        CHECK.due("none", x.clear(), 0);
        x.file();
        CHECK.due("one without a NAME", x.clear(), 1);
        for (int i = 0; i < 12; i++) {
            Check.add(x, "n", "");
        }
        CHECK.due("12", x.clear(), 12);
        CHECK.due("none again", x.clear(), 0);
        Check.add(x, "a", "A");
        Check.addLink(x, "b", 0);
        x.clear();
        Check.add(x, "c", "C");
        Check.add(x, "d", "");
        CHECK.due("no LINK is left", x.data('D'), 1);
        x.write(1);
        CHECK.due("nor in what is written", x.row(NONE), 14 + 14 + 20);
        SmallArchives y = new SmallArchives();
        y.clear();
        Check.addMost(y);
        CHECK.due("behind it there is room for 12 whole NAMES", y.name('q'), FULL);
        CHECK.due("the longest NAMES", y.clear(), 12);
        Check.add(y, Check.times("q", 20), Check.times("e", 60));
        CHECK.due("there is no room for more", y.name('q') + y.data('e'), 2 * FULL);
        y.write(2);
        y.read(2);
        CHECK.dueText("a whole NAME has room again", Check.nameOf(y, 0), Check.times("q", 20));
        CHECK.dueText("and whole CONTENTS", Check.bytesOf(y, 0), Check.times("e", 60));
    }
}
