/** Promises 12 to 17: each sentence that names an edge or a refusal has a method of its own. */
public final class BoundsEntriesTest {
    private static final Check CHECK = new Check("bounds of entries");
    private static final int NONE = SmallArchives.NONE, OUTSIDE = SmallArchives.OUTSIDE;
    private static final int[] FAR = {Integer.MIN_VALUE, Integer.MIN_VALUE + 1, -65536, 65536, Integer.MAX_VALUE};
    private static final String A = Rows.heads("a/", "0", "");

    public static void main(String[] args) {
        readAnswers();
        readBehindFinding();
        readAgain();
        readOutside();
        placeOfFinding();
        placeNone();
        placeOfLatest();
        entriesRead();
        toldName();
        toldBytes();
        toldBegin();
        toldFirst();
        toldFirstElse();
        toldNameByte();
        toldNoEntry();
        toldNoWhat();
        gotByte();
        gotNone();
        sameOfNone();
        sameCount();
        sameOrder();
        sameNames();
        sameBytes();
        sameBehindFinding();
        CHECK.end();
    }

    private static void readAnswers() {
        CHECK.sentence("Promise 12: how many ENTRIES; -20 less the KIND of a FINDING");
        String two = Rows.numbers(1, 2, "b", "");
        CHECK.due("none", Check.withRow("").read(2), 0);
        CHECK.due("one", Check.withRow(Rows.START + A).read(0), 1);
        CHECK.due("1 NULL", Check.withRow(Rows.START + Rows.heads("/0", "0", "")).read(0), -21);
        CHECK.due("2 INDEX", Check.withRow("").read(0), -22);
        CHECK.due("3 SIZE", Check.withRow(Rows.numbersHead(1, 1, 128, 0, 0)).read(1), -23);
        CHECK.due("4 FORM", Check.withRow("x").read(0), -24);
        CHECK.due("5 SUM", Check.withRow(Rows.numbersHead(1, 1, 2, 0, 1) + "a\0").read(1), -25);
        CHECK.due("6 LOST", Check.withRow(two + Rows.TRAILER).read(1), -26);
    }

    private static void readBehindFinding() {
        CHECK.sentence("Promise 12: THE ROW is READ by a FORM: how many ENTRIES, whatever was found before");
        String[] rows = {Rows.START + Rows.heads("/0", "0", ""), "", Rows.numbersHead(1, 1, 128, 0, 0), "x",
            Rows.numbersHead(1, 1, 2, 0, 1) + "a\0", Rows.numbers(1, 2, "b", "") + Rows.TRAILER};
        int[] forms = {0, 1, 1, 2, 1, 1};
        for (int kind = 1; kind <= 6; kind++) {
            SmallArchives x = Check.withRow(rows[kind - 1]);
            CHECK.due("a FINDING of KIND " + kind, x.read(forms[kind - 1]), -20 - kind);
            Check.putRow(x, Rows.START + A);
            CHECK.dueRead("none behind KIND " + kind, x, 0, 1, NONE, 1);
        }
    }

    private static void readAgain() {
        CHECK.sentence("Promise 12: THE ROW is READ by a FORM: how many ENTRIES, however often");
        SmallArchives x = new SmallArchives();
        Check.addMost(x);
        for (int turn = 0; turn < 15; turn++) {
            x.write(turn % 3);
            CHECK.dueRead("turn " + turn, x, turn % 3, 12, NONE, 12);
            CHECK.due("same()", x.same(), 1);
            CHECK.due("the last NAME", x.told(11, 4, 19), 'm');
            CHECK.due("the last byte", x.got(11, 59), 'd');
        }
    }

    private static void readOutside() {
        CHECK.sentence("Promise 12: OUTSIDE");
        SmallArchives x = Check.withRow(Rows.START + A + " ");
        for (int form : new int[] {-2, -1, 3, 4, 256}) {
            CHECK.due("ahead of any read: read(" + form + ")", x.read(form), OUTSIDE);
        }
        CHECK.due("place()", x.place(), NONE);
        CHECK.dueRead("a FINDING", x, 0, -24, 18, 1);
        for (int form : FAR) {
            CHECK.due("read(" + form + ")", x.read(form), OUTSIDE);
            CHECK.due("place() stays", x.place(), 18);
            CHECK.due("entries() stays", x.entries(), 1);
        }
    }

    private static void placeOfFinding() {
        CHECK.sentence("Promise 13: The PLACE of the latest read()'s FINDING");
        CHECK.dueReadOf("", 0, -22, 0, 0);
        CHECK.dueReadOf("x", 0, -24, 0, 0);
        CHECK.dueReadOf(Rows.START + A.repeat(35) + " ", 0, -24, 494, 35);
        SmallArchives x = new SmallArchives();
        Check.addMost(x);
        x.write(2);
        for (char c : "begin a\n/````````````````````\n`\nend\nbegin bbbbbb".toCharArray()) {
            x.put(c);
        }
        CHECK.due("a full ROW", x.row(NONE), 1500);
        CHECK.dueRead("its length", x, 2, -22, 1500, 13);
    }

    private static void placeNone() {
        CHECK.sentence("Promise 13: NONE: it had none");
        SmallArchives x = new SmallArchives();
        CHECK.due("no read", x.place(), NONE);
        x.write(0);
        CHECK.due("a write is none", x.place(), NONE);
        CHECK.dueRead("one", x, 1, -24, 0, 0);
        CHECK.dueRead("none again", x, 0, 0, NONE, 0);
    }

    private static void placeOfLatest() {
        CHECK.sentence("Promise 13: of the latest read()");
        SmallArchives x = Check.withRow(Rows.START + A + " ");
        x.read(0);
        x.cut(0);
        x.write(1);
        x.put(5);
        x.poke(0, 0);
        x.clear();
        x.file();
        CHECK.due("it stays until the next", x.place(), 18);
        x.read(1);
        CHECK.due("and is that of the next then", x.place(), 0);
    }

    private static void entriesRead() {
        CHECK.sentence("Promise 14: How many ENTRIES were READ");
        SmallArchives x = new SmallArchives();
        CHECK.due("no read", x.entries(), 0);
        x.read(2);
        CHECK.due("an empty ROW", x.entries(), 0);
        Check.putRow(x, Rows.START + A.repeat(20));
        x.read(0);
        CHECK.due("more than there may be FILES", x.entries(), 20);
        x.cut(Rows.START.length() + 14 * 7 + 1);
        CHECK.due("they stay until the next read", x.entries(), 20);
        x.read(0);
        CHECK.due("behind a FINDING", x.entries(), 7);
        x.read(1);
        CHECK.due("none ahead of one", x.entries(), 0);
    }

    /** A ROW of each FORM with two ENTRIES: a NAME of 1 without bytes, one of 20 with 60. */
    private static SmallArchives two(int form) {
        String name = Check.times("n", 19) + "m";
        String bytes = "\0" + Check.times("d", 58) + "\u00ff";
        SmallArchives x = new SmallArchives();
        Check.add(x, "a", "");
        Check.add(x, name, bytes);
        x.write(form);
        CHECK.due("read(" + form + ")", x.read(form), 2);
        return x;
    }

    private static void toldName() {
        CHECK.sentence("Promise 15: what = 0 how many bytes its NAME has");
        for (int form = 0; form < 3; form++) {
            CHECK.due("1", two(form).told(0, 0, 0), 1);
            CHECK.due("20", two(form).told(1, 0, 0), 20);
            CHECK.due("whatever k is", two(form).told(1, 0, Integer.MIN_VALUE), 20);
        }
    }

    private static void toldBytes() {
        CHECK.sentence("Promise 15: 1 its bytes");
        for (int form = 0; form < 3; form++) {
            CHECK.due("none", two(form).told(0, 1, 0), 0);
            CHECK.due("60", two(form).told(1, 1, 0), 60);
            CHECK.due("whatever k is", two(form).told(1, 1, Integer.MAX_VALUE), 60);
        }
    }

    private static void toldBegin() {
        CHECK.sentence("Promise 15: 2 where it begins in THE ROW");
        int[] first = {4 + 14 + 22, 0, 0};
        int[] second = {4 + 14 + 22 + 14, 12, 14};
        for (int form = 0; form < 3; form++) {
            SmallArchives x = two(form);
            CHECK.due("the first of FORM " + form, x.told(0, 2, 0), first[form]);
            CHECK.due("the second", x.told(1, 2, -9), second[form]);
            x.cut(0);
            CHECK.due("THE ROW is gone", x.told(1, 2, 0), second[form]);
        }
    }

    private static void toldFirst() {
        CHECK.sentence("Promise 15: 3 the first ENTRY that has the same bytes by its NUMBER (FORM 1");
        SmallArchives x = Check.withRow(Rows.numbers(1, 1, "a", "A") + Rows.numbers(1, 2, "b", "")
                + Rows.numbers(2, 2, "c", "") + Rows.numbers(1, 1, "d", "A") + Rows.numbers(1, 2, "e", "A")
                + Rows.numbers(2, 2, "f", "A") + Rows.numbers(0, 2, "g", "A") + Rows.numbers(256, 2, "h", "A")
                + Rows.numbers(0, 2, "i", "A") + Rows.numbers(256, 2, "j", "A") + Rows.TRAILER);
        CHECK.due("read(1)", x.read(1), 10);
        int[] due = {0, 1, 2, 3, 1, 2, 6, 7, 6, 7};
        for (int i = 0; i < due.length; i++) {
            CHECK.due("told(" + i + ", 3, 0)", x.told(i, 3, 0), due[i]);
        }
        SmallArchives y = Check.withRow(Rows.numbers(1, 2, "a", "") + Rows.numbers(1, 3, "b", ""));
        y.read(1);
        CHECK.due("other LINKS above 1, and behind a FINDING", y.told(1, 3, 0), 0);
    }

    private static void toldFirstElse() {
        CHECK.sentence("Promise 15: 3 .. (.. itself else)");
        SmallArchives x = new SmallArchives();
        Check.add(x, "a", "A");
        Check.addLink(x, "b", 0);
        for (int form = 0; form < 3; form++) {
            x.write(form);
            x.read(form);
            CHECK.due("told(0, 3, 0) of FORM " + form, x.told(0, 3, 0), 0);
            CHECK.due("told(1, 3, 0) of FORM " + form, x.told(1, 3, 0), form == 1 ? 0 : 1);
        }
    }

    private static void toldNameByte() {
        CHECK.sentence("Promise 15: 4 byte k of its NAME (NONE)");
        for (int form = 0; form < 3; form++) {
            SmallArchives x = two(form);
            CHECK.due("the only one", x.told(0, 4, 0), 'a');
            CHECK.due("behind it", x.told(0, 4, 1), NONE);
            CHECK.due("ahead of it", x.told(0, 4, -1), NONE);
            CHECK.due("the first", x.told(1, 4, 0), 'n');
            CHECK.due("the 20th", x.told(1, 4, 19), 'm');
            CHECK.due("the 21st", x.told(1, 4, 20), NONE);
            for (int k : FAR) {
                CHECK.due("told(1, 4, " + k + ")", x.told(1, 4, k), NONE);
            }
        }
    }

    private static void toldNoEntry() {
        CHECK.sentence("Promise 15: OUTSIDE: no such ENTRY");
        CHECK.due("no read", new SmallArchives().told(0, 0, 0), OUTSIDE);
        for (int form = 0; form < 3; form++) {
            SmallArchives x = two(form);
            for (int what = -1; what <= 5; what++) {
                CHECK.due("told(-1, " + what + ", 0)", x.told(-1, what, 0), OUTSIDE);
                CHECK.due("told(2, " + what + ", 0)", x.told(2, what, 0), OUTSIDE);
            }
            for (int i : FAR) {
                CHECK.due("told(" + i + ", 0, 0)", x.told(i, 0, 0), OUTSIDE);
            }
            x.cut(0);
            x.read(form);
            CHECK.due("no ENTRY any more", x.told(0, 4, 0), OUTSIDE);
        }
        SmallArchives y = Check.withRow(Rows.START + Rows.table("x/\n") + A + A + " ");
        y.read(0);
        CHECK.due("THE TABLE and what has a FINDING are none", y.told(2, 0, 0), OUTSIDE);
    }

    private static void toldNoWhat() {
        CHECK.sentence("Promise 15: OUTSIDE: .. what");
        SmallArchives x = two(2);
        CHECK.due("told(0, -1, 0)", x.told(0, -1, 0), OUTSIDE);
        CHECK.due("told(0, 5, 0)", x.told(0, 5, 0), OUTSIDE);
        for (int what : FAR) {
            CHECK.due("told(0, " + what + ", 0)", x.told(0, what, 0), OUTSIDE);
        }
        CHECK.due("told(0, 4, 0)", x.told(0, 4, 0), 'a');
    }

    private static void gotByte() {
        CHECK.sentence("Promise 16: Byte k of ENTRY i, 0 to 255");
        for (int form = 0; form < 3; form++) {
            SmallArchives x = two(form);
            CHECK.due("the first", x.got(1, 0), 0);
            CHECK.due("the second", x.got(1, 1), 'd');
            CHECK.due("the last", x.got(1, 59), 255);
        }
    }

    private static void gotNone() {
        CHECK.sentence("Promise 16: IndexOutOfBoundsException: there is none");
        CHECK.dueThrow("no read", new SmallArchives(), 0, 0);
        for (int form = 0; form < 3; form++) {
            SmallArchives x = two(form);
            CHECK.dueThrow("one without bytes", x, 0, 0);
            CHECK.dueThrow("the 61st", x, 1, 60);
            CHECK.dueThrow("ahead of the first", x, 1, -1);
            CHECK.dueThrow("no ENTRY 2", x, 2, 0);
            CHECK.dueThrow("no ENTRY -1", x, -1, 0);
            for (int far : FAR) {
                CHECK.dueThrow("got(1, " + far + ")", x, 1, far);
                CHECK.dueThrow("got(" + far + ", 0)", x, far, 0);
                CHECK.dueThrow("got(" + far + ", " + far + ")", x, far, far);
            }
            CHECK.due("it goes on behind that", x.got(1, 59), 255);
        }
    }

    private static void sameOfNone() {
        CHECK.sentence("Promise 17: Whether the ENTRIES READ are FILES: none and none");
        SmallArchives x = new SmallArchives();
        CHECK.due("a new object", x.same(), 1);
        x.file();
        CHECK.due("one FILE", x.same(), 0);
        x.clear();
        CHECK.due("none again", x.same(), 1);
        Check.putRow(x, Rows.START + A);
        x.read(0);
        CHECK.due("one ENTRY", x.same(), 0);
    }

    private static SmallArchives readOf(String row) {
        SmallArchives x = Check.withRow(row);
        x.read(2);
        return x;
    }

    private static void sameCount() {
        CHECK.sentence("Promise 17: the ENTRIES READ are FILES: as many");
        SmallArchives x = readOf(Rows.lines("a", "").repeat(2));
        int[] due = {0, 1, 0};
        for (int n = 1; n <= 3; n++) {
            Check.add(x, "a", "");
            CHECK.due(n + " FILES", x.same(), due[n - 1]);
        }
        SmallArchives most = readOf(Rows.lines("a", "").repeat(13));
        for (int i = 0; i < 12; i++) {
            Check.add(most, "a", "");
        }
        CHECK.due("13 ENTRIES, 12 FILES", most.same(), 0);
        most.cut(12 * 14);
        most.read(2);
        CHECK.due("12 and 12", most.same(), 1);
    }

    private static void sameOrder() {
        CHECK.sentence("Promise 17: in order");
        SmallArchives x = readOf(Rows.lines("a", "") + Rows.lines("b", ""));
        Check.add(x, "b", "");
        Check.add(x, "a", "");
        CHECK.due("b, a", x.same(), 0);
        x.clear();
        Check.add(x, "a", "");
        Check.add(x, "b", "");
        CHECK.due("a, b", x.same(), 1);
    }

    private static void sameNames() {
        CHECK.sentence("Promise 17: with like NAMES");
        String twenty = Check.times("n", 20);
        SmallArchives x = readOf(Rows.lines(twenty, ""));
        String[] others = {Check.times("n", 19), Check.times("n", 19) + "m", "m" + Check.times("n", 19), "n"};
        for (String name : others) {
            x.clear();
            Check.add(x, name, "");
            CHECK.due(name, x.same(), 0);
        }
        x.clear();
        Check.add(x, twenty, "");
        CHECK.due(twenty, x.same(), 1);
        SmallArchives y = readOf(Rows.lines("TRAILER!", ""));
        Check.add(y, "TRAILER!", "");
        CHECK.due("TRAILER!", y.same(), 1);
    }

    private static void sameBytes() {
        CHECK.sentence("Promise 17: and bytes");
        String[] all = {"", "\0", "\0\0", "\1", Check.times("d", 59), Check.times("d", 60), Check.times("d", 59) + "e"};
        for (String read : all) {
            SmallArchives x = new SmallArchives();
            Check.add(x, "a", read);
            x.write(0);
            x.read(0);
            for (String bytes : all) {
                x.clear();
                Check.add(x, "a", bytes);
                CHECK.due(bytes.length() + " and " + read.length(), x.same(), bytes.equals(read) ? 1 : 0);
            }
        }
        SmallArchives y = new SmallArchives();
        Check.add(y, "a", "A");
        Check.addLink(y, "b", 0);
        y.write(2);
        y.read(2);
        y.clear();
        Check.add(y, "a", "A");
        Check.add(y, "b", "A");
        CHECK.due("a LINK and none with like bytes", y.same(), 1);
    }

    private static void sameBehindFinding() {
        CHECK.sentence("Promise 17: the ENTRIES READ (the ENTRIES ahead are READ)");
        SmallArchives x = readOf(Rows.lines("a", "") + "x");
        CHECK.due("a FINDING", x.place(), 14);
        Check.add(x, "a", "");
        CHECK.due("the ENTRY ahead", x.same(), 1);
        x.read(0);
        CHECK.due("none ahead", x.same(), 0);
        x.clear();
        CHECK.due("none and none", x.same(), 1);
    }
}
