/** Part 3 by FORM 0 and promise 12: each sentence that names an edge or a FINDING has a method of its own. */
public final class BoundsHeadsTest {
    private static final Check CHECK = new Check("bounds of heads");
    private static final int NONE = SmallArchives.NONE, NULL = -21, INDEX = -22, FORM = -24;
    private static final String START = Rows.START;
    private static final String A = Rows.heads("a/", "0", "");

    public static void main(String[] args) {
        toItsEnd();
        firstEnds();
        nullName();
        rowEnds();
        tableHasNone();
        byteOfStart();
        byteOfNameField();
        byteOfNumberedField();
        byteOfTableField();
        byteOfSizeField();
        byteOfEnd();
        byteForOdd();
        firstOfField();
        tableNotFirst();
        nameByte();
        longNameByte();
        longNameEnd();
        nameAboveTwenty();
        nameOfNone();
        sizeBound();
        tableBound();
        byteForByte();
        orderBehindEnd();
        orderInTable();
        boundAheadOfBytes();
        CHECK.end();
    }

    private static void due(String row, int answer, int place, int entries) {
        CHECK.dueReadOf(row, 0, answer, place, entries);
    }

    private static void dueEachByte(String row, int place, String may, int entries) {
        dueEachByte(row, place, may, "", entries);
    }

    /**
     * Every byte in this place of a ROW: with those of "may" it is read to its end, those of "other" may stand
     * there but tell something else and are passed over, all that are left are FORM there.
     */
    private static void dueEachByte(String row, int place, String may, String other, int entries) {
        for (int v = 0; v < 256; v++) {
            boolean fits = may.indexOf(v) >= 0;
            if (other.indexOf(v) < 0) {
                due(row.substring(0, place) + (char) v + row.substring(place + 1), fits ? entries : FORM,
                        fits ? NONE : place, fits ? entries : 0);
            }
        }
    }

    private static void toItsEnd() {
        CHECK.sentence("TO READ THE ROW by a FORM: ENTRY after ENTRY to its end");
        due(START, 0, NONE, 0);
        due(START + A, 1, NONE, 1);
        due(START + A.repeat(30), 30, NONE, 30);
        due("", INDEX, 0, 0);
    }

    private static void firstEnds() {
        CHECK.sentence("FINDINGS, the first that is met ends it; the ENTRIES ahead are READ (THE TABLE is none)");
        due(START + "  ", FORM, 4, 0);
        due(START + A + A + "/1      0   `\n" + " ", NULL, 4 + 28, 2);
        due(START + Rows.table("x/\n") + " ", FORM, 22, 0);
        due(START + Rows.table("x/\n") + A + " ", FORM, 36, 1);
        due(START + Rows.table("x/\n"), 0, NONE, 0);
        due(START + Rows.heads("a/", "61", "") + " ", FORM, 12, 0);
    }

    private static void nullName() {
        CHECK.sentence("1 NULL: a long NAME without a TABLE (the NAME FIELD's place)");
        due(START + Rows.heads("/0", "0", ""), NULL, 4, 0);
        due(START + Rows.heads("/9999999", "0", ""), NULL, 4, 0);
        due(START + A + Rows.heads("/0", "0", ""), NULL, 18, 1);
        due(START + Rows.table("") + Rows.heads("/0", "0", ""), INDEX, 18, 0);
        SmallArchives x = Check.withRow(START + Rows.table("x/\n") + Rows.heads("/0", "0", ""));
        CHECK.due("with one", x.read(0), 1);
        Check.putRow(x, START + Rows.heads("/0", "0", ""));
        CHECK.dueRead("that of the read before is none", x, 0, NULL, 4, 0);
    }

    private static void rowEnds() {
        CHECK.sentence("2 INDEX: THE ROW ends where more should stand (its length)");
        String table = START + Rows.table("long.name/\n");
        String first = table + Rows.heads("/0", "3", "xyz\n");
        String row = first + Rows.heads("abcdefg/", "60", Check.times("d", 60));
        for (int n = 0; n <= row.length(); n++) {
            boolean whole = n == 4 || n == table.length() || n == first.length() || n == row.length();
            int entries = n == row.length() ? 2 : n >= first.length() ? 1 : 0;
            due(row.substring(0, n), whole ? entries : INDEX, whole ? NONE : n, entries);
        }
    }

    /** THE TABLE with these bytes and one ENTRY with this NAME FIELD. */
    private static void dueLong(String table, String field, int answer) {
        String ahead = START + Rows.table(table);
        due(ahead + Rows.heads(field, "0", ""), answer, answer < 0 ? ahead.length() : NONE, Math.max(0, answer));
    }

    private static void tableHasNone() {
        CHECK.sentence("a long NAME begins at a place, or goes on, where THE TABLE has none (the NAME FIELD's)");
        dueLong("ab/\n", "/1", 1);
        dueLong("ab/\n", "/4", INDEX);
        dueLong("ab/\n", "/5", INDEX);
        dueLong("ab/\nx", "/5", INDEX);
        dueLong("ab/\n", "/9999999", INDEX);
        dueLong("", "/0", INDEX);
        dueLong("ab", "/0", INDEX);
        dueLong("ab", "/1", INDEX);
        dueLong("ab/", "/0", INDEX);
        dueLong(Check.times("n", 20), "/0", INDEX);
        dueLong(Check.times("n", 20) + "/", "/0", INDEX);
        dueLong(Check.times("x", 297) + "y/\n", "/297", 1);
        dueLong(Check.times("x", 297) + "y/\n", "/300", INDEX);
    }

    private static void byteOfStart() {
        CHECK.sentence("4 FORM: a byte that may not stand there (its place): 33, 60, 97, 62");
        for (int i = 0; i < 4; i++) {
            dueEachByte(START + A, i, START.substring(i, i + 1), 1);
        }
    }

    private static void byteOfNameField() {
        CHECK.sentence("4 FORM: a byte that may not stand there: of a NAME of 7 bytes or less, then /, then blanks");
        String seven = START + Rows.heads("abcdefg/", "0", "");
        dueEachByte(seven, 11, "/", 1);
        for (int i = 6; i < 12; i++) {
            dueEachByte(START + A, i, " ", 1);
        }
        due(START + Rows.heads("abcdefgh", "0", ""), FORM, 11, 0);
        due(START + Rows.heads("", "0", ""), FORM, 4, 0);
        due(START + Rows.heads("a", "0", ""), FORM, 5, 0);
        due(START + Rows.heads("abcdefg", "0", ""), FORM, 11, 0);
        due(START + Rows.heads("a//", "0", ""), FORM, 6, 0);
    }

    private static void byteOfNumberedField() {
        CHECK.sentence("4 FORM: a byte that may not stand there: of /, figures, blanks");
        String ahead = START + Rows.table("0123456789n/\n");
        String row = ahead + Rows.heads("/10", "0", "");
        int field = ahead.length();
        dueEachByte(row, field + 1, "01", "23456789/", 1);
        dueEachByte(row, field + 2, " 0", "123456789", 1);
        for (int i = 4; i < 8; i++) {
            dueEachByte(row, field + i, " ", 1);
        }
        due(ahead + Rows.heads("/1 0", "0", ""), FORM, field + 3, 0);
        due(ahead + Rows.heads("/1/", "0", ""), FORM, field + 2, 0);
        due(ahead + Rows.heads("/0000010", "0", ""), 1, NONE, 1);
        due(ahead + Rows.heads("/000001/", "0", ""), FORM, field + 7, 0);
    }

    private static void byteOfTableField() {
        CHECK.sentence("4 FORM: a byte that may not stand there: of the NAME FIELD //, then blanks");
        for (int i = 6; i < 12; i++) {
            dueEachByte(START + Rows.table(""), i, " ", 0);
        }
    }

    private static void byteOfSizeField() {
        CHECK.sentence("4 FORM: a byte that may not stand there: of SIZE: figures, then blanks");
        dueEachByte(START + A, 12, "0", "123456789", 1);
        dueEachByte(START + A, 13, " 0", "123456789", 1);
        dueEachByte(START + A, 14, " ", 1);
        dueEachByte(START + A, 15, " ", 1);
        due(START + Rows.heads("a/", "", ""), FORM, 12, 0);
        due(START + Rows.heads("a/", "0000", ""), 1, NONE, 1);
        due(START + Rows.heads("a/", "-1", ""), FORM, 12, 0);
        due(START + Rows.heads("a/", "+1", "x\n"), FORM, 12, 0);
        due(START + Rows.heads("a/", "   1", "x\n"), FORM, 12, 0);
        due(START + Rows.heads("a/", "1  1", "x\n"), FORM, 15, 0);
    }

    private static void byteOfEnd() {
        CHECK.sentence("4 FORM: a byte that may not stand there: the bytes 96, 10");
        dueEachByte(START + A, 16, "`", 1);
        dueEachByte(START + A, 17, "\n", 1);
        dueEachByte(START + Rows.table("xy"), 16, "`", 0);
        dueEachByte(START + Rows.table("xy"), 17, "\n", 0);
    }

    private static void byteForOdd() {
        CHECK.sentence("4 FORM: a byte that may not stand there: a byte 10, if these are odd");
        dueEachByte(START + Rows.heads("a/", "1", "x\n"), 19, "\n", 1);
        dueEachByte(START + Rows.heads("a/", "59", Check.times("x", 59) + "\n"), 18 + 59, "\n", 1);
        dueEachByte(START + Rows.table("xyz"), 21, "\n", 0);
        due(START + Rows.heads("a/", "2", "xy\n"), FORM, 20, 1);
    }

    private static void firstOfField() {
        CHECK.sentence("of FIELDS the first such one");
        due(START + "a/ x x  0   `\n", FORM, 7, 0);
        due(START + "/1x x x 0   `\n", FORM, 6, 0);
        due(START + "//x x x 0   `\n", FORM, 6, 0);
        due(START + "a/      x y ?\n", FORM, 12, 0);
        due(START + "a/      0x y?\n", FORM, 13, 0);
        due(START + "a b c d x   ?\n", FORM, 5, 0);
    }

    private static void tableNotFirst() {
        CHECK.sentence("a TABLE that is not the first ENTRY (its NAME FIELD)");
        due(START + A + Rows.table("x/\n"), FORM, 18, 1);
        due(START + A + A + Rows.table(""), FORM, 32, 2);
        due(START + Rows.table("") + Rows.table(""), FORM, 18, 0);
        due(START + Rows.table("") + A + Rows.table(""), FORM, 32, 1);
    }

    private static void nameByte() {
        CHECK.sentence("a NAME with a byte that is none (at it");
        StringBuilder may = new StringBuilder();
        for (char c = 33; c <= 126; c++) {
            may.append(c == '/' ? "" : "" + c);
        }
        String row = START + Rows.heads("abcdefg/", "0", "");
        for (int i = 4; i < 11; i++) {
            dueEachByte(row, i, may.toString(), "/", 1);
        }
    }

    private static void longNameByte() {
        CHECK.sentence("a NAME with a byte that is none (..; of a long NAME the NAME FIELD)");
        for (int v = 0; v < 256; v++) {
            boolean may = v >= 33 && v <= 126 && v != '/';
            dueLong((char) v + "bc/\n", "/0", may ? 1 : FORM);
            dueLong("ab" + (char) v + "/\n", "/0", may ? 1 : FORM);
            dueLong(Check.times("n", 19) + (char) v + "/\n", "/0", may ? 1 : FORM);
        }
        dueLong("a\nb/\n", "/0", FORM);
        dueLong("a\nb/\n", "/2", 1);
    }

    private static void longNameEnd() {
        CHECK.sentence("it goes to the next / there, which a byte 10 follows");
        for (int v = 0; v < 256; v++) {
            dueLong("ab/" + (char) v, "/0", v == 10 ? 1 : FORM);
        }
        SmallArchives x = Check.withRow(START + Rows.table("abc/\nde/\n") + Rows.heads("/0", "0", "")
                + Rows.heads("/2", "0", "") + Rows.heads("/5", "0", "") + Rows.heads("/6", "0", ""));
        CHECK.dueRead("places of NAMES and in them", x, 0, 4, NONE, 4);
        String[] names = {"abc", "c", "de", "e"};
        for (int i = 0; i < names.length; i++) {
            CHECK.dueText("NAME " + i, Check.nameOf(x, i), names[i]);
        }
    }

    private static void nameAboveTwenty() {
        CHECK.sentence("or above 20 bytes (FORM 0: the NAME FIELD");
        for (int n = 1; n <= 30; n++) {
            dueLong(Check.times("n", n) + "/\n", "/0", n <= 20 ? 1 : FORM);
        }
        dueLong(Check.times("n", 30) + "/\n", "/10", 1);
        dueLong(Check.times("n", 30) + "/\n", "/9", FORM);
        dueLong(Check.times("n", 21), "/0", FORM);
    }

    private static void nameOfNone() {
        CHECK.sentence("or of none (FORM 0: the NAME FIELD");
        dueLong("/\n", "/0", FORM);
        dueLong("ab/\n", "/2", FORM);
        dueLong("ab/\n/\n", "/4", FORM);
        dueLong("ab/\nc/\n", "/2", FORM);
    }

    private static void sizeBound() {
        CHECK.sentence("a SIZE .. more than 60 bytes (.. at the SIZE");
        for (int n = 0; n <= 70; n++) {
            String bytes = Check.times("d", n) + "\n".repeat(n % 2);
            due(START + Rows.heads("a/", "" + n, bytes), n <= 60 ? 1 : FORM, n <= 60 ? NONE : 12, n <= 60 ? 1 : 0);
        }
        for (int n : new int[] {99, 100, 255, 256, 300, 301, 999, 1000, 9999}) {
            due(START + A + Rows.heads("a/", "" + n, ""), FORM, 26, 1);
        }
        due(START + Rows.heads("a/", "0060", Check.times("d", 60)), 1, NONE, 1);
        due(START + Rows.heads("a/", "0061", Check.times("d", 62)), FORM, 12, 0);
    }

    private static void tableBound() {
        CHECK.sentence("(of THE TABLE 300");
        for (int n : new int[] {0, 1, 60, 61, 299, 300}) {
            due(START + Rows.table(Check.times("x", n)), 0, NONE, 0);
        }
        for (int n : new int[] {301, 302, 999}) {
            due(START + Rows.heads("//", "" + n, Check.times("x", 302)), FORM, 12, 0);
        }
        due(START + Rows.heads("//", "9999", ""), FORM, 12, 0);
    }

    private static void byteForByte() {
        CHECK.sentence("In an ENTRY: byte for byte");
        due(START + "a?b", INDEX, 7, 0);
        due(START + "a b", FORM, 5, 0);
        due(START + "a/  ", INDEX, 8, 0);
        due(START + "//  ", INDEX, 8, 0);
        due(START + "/0  ", INDEX, 8, 0);
        due(START + "/0  x", FORM, 8, 0);
        due(START + "a/      99", INDEX, 14, 0);
        due(START + "a/      99  `", INDEX, 17, 0);
        due(START + "a/      99  x", FORM, 16, 0);
        due(START + A + "//      0   `", INDEX, 31, 1);
        due(START + A + "//      0   x", FORM, 30, 1);
    }

    private static void orderBehindEnd() {
        CHECK.sentence("FORM 0: behind END (96, 10) a TABLE that is not first, or what a long NAME needs .., then "
                + "SIZE's bound");
        due(START + A + "//      999 `\n", FORM, 18, 1);
        due(START + A + "//      999 `?", FORM, 31, 1);
        due(START + "/0      61  `\n", NULL, 4, 0);
        due(START + "/0      61  ``", FORM, 17, 0);
        due(START + Rows.table("ab/\n") + "/9      61  `\n", INDEX, 22, 0);
        due(START + Rows.table("ab/x") + "/0      61  `\n", FORM, 22, 0);
        due(START + Rows.table("ab/\n") + "/0      61  `\n", FORM, 30, 0);
        due(START + "//      301 `\n", FORM, 12, 0);
    }

    private static void orderInTable() {
        CHECK.sentence("what a long NAME needs (byte for byte there)");
        dueLong("a b", "/0", FORM);
        dueLong("ab", "/0", INDEX);
        dueLong("ab ", "/0", FORM);
        dueLong(Check.times("n", 20) + " ", "/0", FORM);
        dueLong(Check.times("n", 20) + "n", "/0", FORM);
        dueLong(Check.times("n", 20) + "/", "/0", INDEX);
        dueLong(Check.times("n", 20) + "/x", "/0", FORM);
        dueLong("/", "/0", FORM);
    }

    private static void boundAheadOfBytes() {
        CHECK.sentence("then SIZE's bound, then the bytes");
        due(START + Rows.heads("a/", "61", "d"), FORM, 12, 0);
        due(START + Rows.heads("a/", "60", "d"), INDEX, 19, 0);
        due(START + Rows.heads("//", "301", "d"), FORM, 12, 0);
        due(START + Rows.heads("//", "300", "d"), INDEX, 19, 0);
        due(START + Rows.table("ab/\n") + Rows.heads("/0", "60", "d"), INDEX, 37, 0);
    }
}
