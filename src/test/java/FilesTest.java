/** Promises 1 to 6: a new object, file, name, data, link, clear. */
public final class FilesTest {
    private static final Check CHECK = new Check("files");

    public static void main(String[] args) {
        newObject();
        file();
        name();
        data();
        link();
        clear();
        CHECK.end();
    }

    private static void newObject() {
        SmallArchives x = new SmallArchives();
        CHECK.due("1: row(NONE)", x.row(SmallArchives.NONE), 0);
        CHECK.due("1: row(0)", x.row(0), SmallArchives.OUTSIDE);
        CHECK.due("1: place()", x.place(), SmallArchives.NONE);
        CHECK.due("1: entries()", x.entries(), 0);
        CHECK.due("1: same()", x.same(), 1);
        CHECK.due("1: clear()", x.clear(), 0);
        CHECK.due("1: write(2)", x.write(2), 0);
    }

    private static void file() {
        SmallArchives x = new SmallArchives();
        for (int i = 0; i < 12; i++) {
            CHECK.due("2: file()", x.file(), i);
            CHECK.due("2: file() behind one without a NAME", x.file(), SmallArchives.NO);
            x.name('a' + i);
        }
        CHECK.due("2: file(), the 13th", x.file(), SmallArchives.FULL);
        x.clear();
        for (int i = 0; i < 11; i++) {
            Check.add(x, "n", "");
        }
        CHECK.due("2: file(), the 12th", x.file(), 11);
        CHECK.due("2: NO ahead of FULL", x.file(), SmallArchives.NO);
        SmallArchives y = new SmallArchives();
        Check.add(y, "TRAILER!", "");
        CHECK.due("2: file() behind TRAILER!", y.file(), 1);
    }

    private static void name() {
        SmallArchives x = new SmallArchives();
        CHECK.due("3: name() without FILES", x.name('a'), SmallArchives.OUTSIDE);
        x.file();
        int[] bad = {Integer.MIN_VALUE, -1, 0, 10, 32, 47, 127, 128, 255, 33 + 256, Integer.MAX_VALUE};
        for (int c : bad) {
            CHECK.due("3: name(" + c + ")", x.name(c), SmallArchives.OUTSIDE);
        }
        int[] good = {33, 46, 48, 126};
        int n = 0;
        for (int c : good) {
            CHECK.due("3: name(" + c + ")", x.name(c), ++n);
        }
        while (n < 20) {
            CHECK.due("3: name('x')", x.name('x'), ++n);
        }
        CHECK.due("3: the 21st", x.name('x'), SmallArchives.FULL);
        CHECK.due("3: OUTSIDE ahead of FULL", x.name('/'), SmallArchives.OUTSIDE);
        x.file();
        CHECK.due("3: of the last FILE", x.name('y'), 1);
        x.data(7);
        CHECK.due("3: behind CONTENTS", x.name('z'), 2);
        x.write(2);
        x.read(2);
        CHECK.dueText("3: the first NAME", Check.nameOf(x, 0), "!.0~" + Check.times("x", 16));
        CHECK.dueText("3: the second NAME", Check.nameOf(x, 1), "yz");
    }

    private static void data() {
        SmallArchives x = new SmallArchives();
        CHECK.due("4: data() without FILES", x.data(0), SmallArchives.OUTSIDE);
        x.file();
        int[] bad = {Integer.MIN_VALUE, -1, 256, Integer.MAX_VALUE};
        for (int v : bad) {
            CHECK.due("4: data(" + v + ")", x.data(v), SmallArchives.OUTSIDE);
        }
        CHECK.due("4: data(0)", x.data(0), 1);
        CHECK.due("4: data(255)", x.data(255), 2);
        for (int n = 3; n <= 60; n++) {
            CHECK.due("4: data(" + n + ")", x.data(n), n);
        }
        CHECK.due("4: the 61st", x.data(1), SmallArchives.FULL);
        CHECK.due("4: OUTSIDE ahead of FULL", x.data(256), SmallArchives.OUTSIDE);
        x.name('a');
        Check.addLink(x, "b", 0);
        CHECK.due("4: data() of a LINK (to a full one)", x.data(1), SmallArchives.NO);
        CHECK.due("4: OUTSIDE ahead of NO", x.data(-1), SmallArchives.OUTSIDE);
        x.file();
        CHECK.due("4: of the last FILE", x.data(9), 1);
    }

    private static void link() {
        SmallArchives x = new SmallArchives();
        CHECK.due("5: link(0) without FILES", x.link(0), SmallArchives.OUTSIDE);
        CHECK.due("5: link(-1) without FILES", x.link(-1), SmallArchives.OUTSIDE);
        Check.add(x, "a", "A");
        CHECK.due("5: link to itself", x.link(0), SmallArchives.OUTSIDE);
        Check.add(x, "b", "B");
        CHECK.due("5: it has CONTENTS", x.link(0), SmallArchives.NO);
        Check.add(x, "c", "");
        int[] bad = {Integer.MIN_VALUE, -1, 2, 3, 12, Integer.MAX_VALUE};
        for (int to : bad) {
            CHECK.due("5: link(" + to + ")", x.link(to), SmallArchives.OUTSIDE);
        }
        CHECK.due("5: link(1)", x.link(1), 1);
        CHECK.due("5: it is a LINK", x.link(0), SmallArchives.NO);
        Check.add(x, "d", "");
        CHECK.due("5: link to a LINK", x.link(2), SmallArchives.NO);
        CHECK.due("5: link behind that", x.link(0), 1);
        CHECK.due("5: OUTSIDE ahead of NO", x.link(3), SmallArchives.OUTSIDE);
        Check.add(x, "empty", "");
        Check.add(x, "f", "");
        CHECK.due("5: link to one without CONTENTS", x.link(4), 1);
        CHECK.due("5: it is a LINK all the same", x.link(0), SmallArchives.NO);
        CHECK.due("5: and takes no data", x.data(1), SmallArchives.NO);
        x.write(2);
        CHECK.due("5: read(2)", x.read(2), 6);
        CHECK.dueText("5: CONTENTS of b's LINK", Check.bytesOf(x, 2), "B");
        CHECK.dueText("5: CONTENTS of a's LINK", Check.bytesOf(x, 3), "A");
        CHECK.dueText("5: CONTENTS of the LINK to none", Check.bytesOf(x, 5), "");
    }

    private static void clear() {
        SmallArchives x = new SmallArchives();
        Check.add(x, "a", "A");
        Check.addLink(x, "b", 0);
        x.write(0);
        x.read(0);
        int size = x.row(SmallArchives.NONE);
        CHECK.due("6: clear()", x.clear(), 2);
        CHECK.due("6: clear() again", x.clear(), 0);
        CHECK.due("6: THE ROW stays", x.row(SmallArchives.NONE), size);
        CHECK.due("6: ENTRIES stay", x.entries(), 2);
        CHECK.due("6: data()", x.data(1), SmallArchives.OUTSIDE);
        CHECK.due("6: name()", x.name('a'), SmallArchives.OUTSIDE);
        CHECK.due("6: file()", x.file(), 0);
        CHECK.due("6: a fresh NAME", x.name('q'), 1);
        CHECK.due("6: fresh CONTENTS", x.data(5), 1);
        x.file();
        x.name('r');
        CHECK.due("6: no LINK of before", x.data(5), 1);
        x.file();
        CHECK.due("6: one without a NAME is counted", x.clear(), 3);
        CHECK.due("6: then a FILE may come", x.file(), 0);
        SmallArchives y = new SmallArchives();
        for (int turn = 0; turn < 2; turn++) {
            for (int i = 0; i < 11; i++) {
                Check.add(y, Check.times("n", 18), "");
            }
            CHECK.due("6: the 12th FILE", y.file(), 11);
            CHECK.due("6: there is room for its NAME", y.name('n'), 1);
            CHECK.due("6: and for its CONTENTS", y.data(1), 1);
            CHECK.due("6: clear() of all", y.clear(), 12);
        }
    }
}
