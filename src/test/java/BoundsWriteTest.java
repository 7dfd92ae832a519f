/** Part 2 and promise 7: each sentence that names an edge or a refusal has a method of its own. */
public final class BoundsWriteTest {
    private static final Check CHECK = new Check("bounds of write");
    private static final int NONE = SmallArchives.NONE, OUTSIDE = SmallArchives.OUTSIDE, NO = SmallArchives.NO;
    private static final String LETTERS = "abcdefghijklmnopqrst";

    public static void main(String[] args) {
        headsWithoutEntries();
        headsOdd();
        headsSize();
        headsShortName();
        headsPlaces();
        headsTable();
        headsLinks();
        numbersName();
        numbersOdd();
        numbersSum();
        numbersAlone();
        numbersTogether();
        numbersLastHasContents();
        numbersOrder();
        numbersTrailer();
        linesOfFifteen();
        linesZeros();
        linesSigns();
        linesLinks();
        writeIsFiles();
        writeOutside();
        writeNameless();
        writeTrailer();
        writeFull();
        CHECK.end();
    }

    private static void dueRow(SmallArchives x, int form, String row) {
        CHECK.due("write(" + form + ")", x.write(form), row.length());
        CHECK.dueText("THE ROW", Check.rowOf(x), row);
    }

    private static SmallArchives with(String name, String contents) {
        SmallArchives x = new SmallArchives();
        Check.add(x, name, contents);
        return x;
    }

    private static void headsWithoutEntries() {
        CHECK.sentence("FORM 0, HEADS: the bytes 33, 60, 97, 62; then ENTRIES");
        SmallArchives x = new SmallArchives();
        CHECK.due("write(0)", x.write(0), 4);
        int[] due = {33, 60, 97, 62, OUTSIDE};
        for (int i = 0; i < 5; i++) {
            CHECK.due("row(" + i + ")", x.row(i), due[i]);
        }
    }

    private static void headsOdd() {
        CHECK.sentence("a byte 10, if these are odd");
        for (int n = 0; n <= 60; n++) {
            String bytes = Check.times("d", n);
            dueRow(with("a", bytes), 0, "!<a>" + Rows.heads("a/", "" + n, n % 2 == 0 ? bytes : bytes + "\n"));
        }
    }

    private static void headsSize() {
        CHECK.sentence("SIZE: figures, then blanks (32)");
        String[] fields = {"0   ", "9   ", "10  ", "60  "};
        for (int k = 0; k < fields.length; k++) {
            SmallArchives x = with("a", Check.times("d", Integer.parseInt(fields[k].trim())));
            x.write(0);
            CHECK.dueText("the SIZE FIELD", Check.rowOf(x).substring(12, 16), fields[k]);
        }
        SmallArchives x = new SmallArchives();
        for (int i = 0; i < 10; i++) {
            Check.add(x, "eight888", "");
            x.write(0);
            String size = "" + (i + 1) * 10;
            CHECK.due("THE TABLE's first figure", x.row(12), size.charAt(0));
            CHECK.due("its third one", x.row(14), i < 9 ? ' ' : '0');
            CHECK.due("the last one is a blank", x.row(15), ' ');
        }
    }

    private static void headsShortName() {
        CHECK.sentence("NAME: one of 7 bytes or less, then /, then blanks; of a longer one /, figures, blanks");
        for (int n = 1; n <= 20; n++) {
            String name = LETTERS.substring(0, n);
            String row = n <= 7 ? Rows.heads(name + "/", "0", "")
                    : Rows.table(name + "/\n") + Rows.heads("/0", "0", "");
            dueRow(with(name, ""), 0, "!<a>" + row);
        }
    }

    private static void headsPlaces() {
        CHECK.sentence("the place in THE TABLE where it begins");
        SmallArchives x = new SmallArchives();
        StringBuilder table = new StringBuilder();
        StringBuilder rest = new StringBuilder();
        for (int i = 0; i < 12; i++) {
            String name = (char) ('a' + i) + "123456789";
            Check.add(x, name, "");
            rest.append(Rows.heads("/" + table.length(), "0", ""));
            table.append(name).append("/\n");
        }
        CHECK.due("the last place has three figures", table.length() - 12, 132);
        dueRow(x, 0, "!<a>" + Rows.table(table.toString()) + rest);
    }

    private static void headsTable() {
        CHECK.sentence("THE TABLE, if there is one, is the first ENTRY .. in the order of their FILES");
        SmallArchives x = with("seven77", "");
        dueRow(x, 0, "!<a>" + Rows.heads("seven77/", "0", ""));
        Check.add(x, "nine99999", "x");
        dueRow(x, 0, "!<a>" + Rows.heads("//", "11", "nine99999/\n\n") + Rows.heads("seven77/", "0", "")
                + Rows.heads("/0", "1", "x\n"));
        Check.add(x, "s", "");
        Check.add(x, "eight888", "");
        dueRow(x, 0, "!<a>" + Rows.heads("//", "21", "nine99999/\neight888/\n\n") + Rows.heads("seven77/", "0", "")
                + Rows.heads("/0", "1", "x\n") + Rows.heads("s/", "0", "") + Rows.heads("/11", "0", ""));
    }

    private static void headsLinks() {
        CHECK.sentence("FORM 0: (LINKS are written with their CONTENTS.)");
        SmallArchives x = with("a", "xyz");
        Check.addLink(x, "b", 0);
        dueRow(x, 0, "!<a>" + Rows.heads("a/", "3", "xyz\n") + Rows.heads("b/", "3", "xyz\n"));
        SmallArchives y = with("a", "");
        Check.addLink(y, "b", 0);
        dueRow(y, 0, "!<a>" + Rows.heads("a/", "0", "") + Rows.heads("b/", "0", ""));
    }

    private static void numbersName() {
        CHECK.sentence("how many bytes the NAME has, and 1; .. the NAME, a byte 0; a byte 0, if these are odd");
        for (int n = 1; n <= 20; n++) {
            String name = LETTERS.substring(0, n);
            dueRow(with(name, ""), 1, "\u00c7q\0\1\1" + (char) (n + 1) + "\0\0\0\0" + name
                    + (n % 2 == 0 ? "\0\0" : "\0") + Rows.TRAILER);
        }
    }

    private static void numbersOdd() {
        CHECK.sentence("SIZE bytes, a byte 0, if these are odd");
        for (int n = 0; n <= 60; n++) {
            String bytes = Check.times("\1", n);
            dueRow(with("a", bytes), 1, "\u00c7q\0\1\1\2\0" + (char) n + "\0" + (char) n + "a\0" + bytes
                    + (n % 2 == 0 ? "" : "\0") + Rows.TRAILER);
        }
    }

    private static void numbersSum() {
        CHECK.sentence("SUM is that of these SIZE bytes, of 16 bits (TWO is two bytes, the highest first)");
        dueSum("", 0, 0);
        dueSum("\0\0\0", 0, 0);
        dueSum("\u00ff", 0, 255);
        dueSum("\u00ff\1", 1, 0);
        dueSum("\u00ff\u00ff", 1, 254);
        dueSum(Check.times("\u00ff", 60), 15300 / 256, 15300 % 256);
    }

    private static void dueSum(String bytes, int high, int low) {
        SmallArchives x = with("a", bytes);
        x.write(1);
        CHECK.due("the high byte", x.row(8), high);
        CHECK.due("the low byte", x.row(9), low);
        CHECK.due("read(1)", x.read(1), 1);
    }

    private static void numbersAlone() {
        CHECK.sentence("A FILE without LINKS to it has LINKS 1");
        SmallArchives x = with("a", "A");
        Check.add(x, "a", "A");
        dueRow(x, 1, Rows.numbers(1, 1, "a", "A") + Rows.numbers(2, 1, "a", "A") + Rows.TRAILER);
    }

    private static void numbersTogether() {
        CHECK.sentence("one with some, and these, LINKS as many as they are together, and one NUMBER");
        SmallArchives x = with("a", "AB");
        for (int together = 2; together <= 12; together++) {
            Check.addLink(x, "b", 0);
            x.write(1);
            for (int i = 0; i < together; i++) {
                CHECK.due("LINKS of " + i + " in " + together, x.row(12 * i + 4), together);
                CHECK.due("NUMBER of " + i, x.row(12 * i + 3), 1);
            }
        }
    }

    private static void numbersLastHasContents() {
        CHECK.sentence("only the last one of them has the CONTENTS, others SIZE 0");
        SmallArchives x = with("a", "AB");
        Check.addLink(x, "b", 0);
        Check.addLink(x, "c", 0);
        dueRow(x, 1, Rows.numbers(1, 3, "a", "") + Rows.numbers(1, 3, "b", "") + Rows.numbers(1, 3, "c", "AB")
                + Rows.TRAILER);
        Check.add(x, "d", "D");
        dueRow(x, 1, Rows.numbers(1, 3, "a", "") + Rows.numbers(1, 3, "b", "") + Rows.numbers(1, 3, "c", "AB")
                + Rows.numbers(2, 1, "d", "D") + Rows.TRAILER);
        SmallArchives y = with("a", "");
        Check.addLink(y, "b", 0);
        dueRow(y, 1, Rows.numbers(1, 2, "a", "") + Rows.numbers(1, 2, "b", "") + Rows.TRAILER);
    }

    private static void numbersOrder() {
        CHECK.sentence("NUMBERS are 1, 2, .. in the order of the first FILE that has each");
        SmallArchives x = with("a", "A");
        Check.add(x, "b", "B");
        Check.addLink(x, "c", 1);
        Check.addLink(x, "d", 0);
        Check.add(x, "e", "E");
        Check.addLink(x, "f", 1);
        dueRow(x, 1, Rows.numbers(1, 2, "a", "") + Rows.numbers(2, 3, "b", "") + Rows.numbers(2, 3, "c", "")
                + Rows.numbers(1, 2, "d", "A") + Rows.numbers(3, 1, "e", "E") + Rows.numbers(2, 3, "f", "B")
                + Rows.TRAILER);
        SmallArchives y = new SmallArchives();
        StringBuilder row = new StringBuilder();
        for (int i = 1; i <= 12; i++) {
            Check.add(y, "n", "");
            row.append(Rows.numbers(i, 1, "n", ""));
        }
        dueRow(y, 1, row + Rows.TRAILER);
    }

    private static void numbersTrailer() {
        CHECK.sentence("At the end an ENTRY with NUMBER 0, LINKS 1, the NAME TRAILER!, SIZE 0, SUM 0");
        int[] due = {199, 113, 0, 0, 1, 9, 0, 0, 0, 0, 'T', 'R', 'A', 'I', 'L', 'E', 'R', '!', 0, 0, OUTSIDE};
        SmallArchives none = new SmallArchives();
        CHECK.due("write(1)", none.write(1), 20);
        SmallArchives one = with("a", "A");
        CHECK.due("write(1)", one.write(1), 14 + 20);
        for (int i = 0; i < due.length; i++) {
            CHECK.due("no FILES: row(" + i + ")", none.row(i), due[i]);
            CHECK.due("one FILE: row(" + (14 + i) + ")", one.row(14 + i), due[i]);
        }
    }

    private static void linesOfFifteen() {
        CHECK.sentence("lines of 15 bytes each, the last one of what is left (none without CONTENTS)");
        for (int n = 0; n <= 60; n++) {
            StringBuilder lines = new StringBuilder(Rows.FULL_LINE.repeat(n / 15));
            if (n % 15 > 0) {
                lines.append((char) (32 + n % 15)).append("````".repeat((n % 15 + 2) / 3)).append('\n');
            }
            dueRow(with("a", Check.times("\0", n)), 2, Rows.lines("a", lines.toString()));
        }
        dueRow(new SmallArchives(), 2, "");
    }

    private static void linesZeros() {
        CHECK.sentence("for each three of them (0s at the end) four signs of 6 bits each, the highest first");
        dueRow(with("a", "\u00ff"), 2, Rows.lines("a", "!_P``\n"));
        dueRow(with("a", "\u00ff\u00ff"), 2, Rows.lines("a", "\"__\\`\n"));
        dueRow(with("a", "\u00ff\u00ff\u00ff"), 2, Rows.lines("a", "#____\n"));
        dueRow(with("a", "\u00ff\u00ff\u00ff\u00ff"), 2, Rows.lines("a", "$_____P``\n"));
    }

    /** 48 bytes whose 64 groups of 6 bits are 0, 1, .. 63. */
    private static String allSixes() {
        StringBuilder bytes = new StringBuilder();
        for (int v = 0; v < 64; v += 4) {
            int three = v << 18 | v + 1 << 12 | v + 2 << 6 | v + 3;
            bytes.append((char) (three >> 16)).append((char) (three >> 8 & 255)).append((char) (three & 255));
        }
        return bytes.toString();
    }

    private static void linesSigns() {
        CHECK.sentence("The sign for v (0 to 63) is 32 and v, but 96 for 0");
        StringBuilder signs = new StringBuilder("`");
        for (int v = 1; v < 64; v++) {
            signs.append((char) (32 + v));
        }
        SmallArchives x = with("a", allSixes());
        dueRow(x, 2, Rows.lines("a", "/" + signs.substring(0, 20) + "\n/" + signs.substring(20, 40) + "\n/"
                + signs.substring(40, 60) + "\n#" + signs.substring(60) + "\n"));
        CHECK.due("read(2)", x.read(2), 1);
        CHECK.due("same()", x.same(), 1);
    }

    private static void linesLinks() {
        CHECK.sentence("FORM 2: (LINKS are written with their CONTENTS.)");
        SmallArchives x = with("a", "abc");
        Check.addLink(x, "b", 0);
        dueRow(x, 2, Rows.lines("a", "#86)C\n") + Rows.lines("b", "#86)C\n"));
        SmallArchives y = with("a", "");
        Check.addLink(y, "b", 0);
        dueRow(y, 2, Rows.lines("a", "") + Rows.lines("b", ""));
    }

    private static void writeIsFiles() {
        CHECK.sentence("Promise 7: THE ROW is FILES by a FORM: how many bytes");
        SmallArchives x = Check.withRow(Check.times("z", 100));
        CHECK.due("shorter than what stood there", x.write(1), 20);
        CHECK.due("how many", x.row(NONE), 20);
        CHECK.due("nothing is left behind it", x.row(20), OUTSIDE);
        CHECK.due("none by FORM 2", x.write(2), 0);
        CHECK.due("how many", x.row(NONE), 0);
        Check.add(x, "a", "");
        CHECK.due("longer than what stood there", x.write(0), 18);
        x.clear();
        CHECK.due("FILES that are gone", x.write(0), 4);
    }

    private static void writeOutside() {
        CHECK.sentence("Promise 7: OUTSIDE: the FORM");
        SmallArchives x = Check.withRow("kept");
        for (int form : new int[] {Integer.MIN_VALUE, -2, -1, 3, 4, 256, Integer.MAX_VALUE}) {
            CHECK.due("write(" + form + ")", x.write(form), OUTSIDE);
        }
        x.file();
        CHECK.due("OUTSIDE is ahead of NO", x.write(3), OUTSIDE);
        CHECK.due("OUTSIDE is ahead of NO", x.write(-1), OUTSIDE);
        CHECK.dueText("THE ROW", Check.rowOf(x), "kept");
    }

    private static void writeNameless() {
        CHECK.sentence("Promise 7: NO: the last FILE has no NAME");
        for (int form = 0; form < 3; form++) {
            SmallArchives x = Check.withRow("kept");
            x.file();
            x.data(1);
            CHECK.due("the only one", x.write(form), NO);
            x.name('a');
            x.file();
            x.link(0);
            CHECK.due("the second one", x.write(form), NO);
            CHECK.dueText("THE ROW", Check.rowOf(x), "kept");
            x.name('b');
            CHECK.due("with NAMES", x.write(form) > 0 ? 1 : 0, 1);
        }
    }

    private static void writeTrailer() {
        CHECK.sentence("Promise 7: NO: .. or one is TRAILER!");
        for (int form = 0; form < 3; form++) {
            SmallArchives x = Check.withRow("kept");
            Check.add(x, "TRAILER!", "");
            CHECK.due("the last one", x.write(form), NO);
            Check.add(x, "b", "");
            CHECK.due("the first one", x.write(form), NO);
            CHECK.dueText("THE ROW", Check.rowOf(x), "kept");
            x.clear();
            Check.add(x, "b", "");
            Check.add(x, "TRAILER!", "");
            Check.add(x, "c", "");
            CHECK.due("the middle one", x.write(form), NO);
        }
        String[] others = {"TRAILER", "TRAILER!!", "!TRAILER", "trailer!", "TRAILER?", "URAILER!"};
        for (String name : others) {
            CHECK.due(name, with(name, "").write(2), 13 + name.length());
        }
    }

    /** The limits of FILES keep every ROW below 1500 bytes: FULL can not be met, and none is refused. */
    private static void writeFull() {
        CHECK.sentence("Promise 7: FULL: more than 1500 (THE ROW stays)");
        SmallArchives x = new SmallArchives();
        Check.addMost(x);
        CHECK.due("the most by FORM 0", x.write(0), 4 + 14 + 12 * 22 + 12 * (14 + 60));
        CHECK.due("the most by FORM 2", x.write(2), 12 * (6 + 20 + 1 + 4 * 22 + 2 + 4));
        CHECK.due("how many", x.row(NONE), 1452);
        CHECK.due("12 together by FORM 1", x.write(1), 12 * 32 + 60 + 20);
        CHECK.due("how many", x.row(NONE), 464);
    }
}
