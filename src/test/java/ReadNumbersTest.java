/** Promises 12 to 14 by FORM 1: what is READ, and every FINDING with its place. */
public final class ReadNumbersTest {
    private static final Check CHECK = new Check("read numbers");
    private static final int INDEX = -22, SIZE = -23, FORM = -24, SUM = -25, LOST = -26;
    private static final String TRAILER = Rows.TRAILER;

    public static void main(String[] args) {
        heads();
        bounds();
        names();
        contents();
        trailer();
        trailerBytes();
        lost();
        groups();
        groupsBehindFindings();
        most();
        cutAnywhere();
        CHECK.end();
    }

    private static void due(String row, int answer, int place, int entries) {
        CHECK.dueReadOf(row, 1, answer, place, entries);
    }

    private static void heads() {
        due("", INDEX, 0, 0);
        due("\u00c8", FORM, 0, 0);
        due("\u00c7", INDEX, 1, 0);
        due("\u00c7p", FORM, 1, 0);
        due("\u00c7q\0\0\0\0\0\0\0", INDEX, 9, 0);
        due(Rows.numbers(1, 1, "a", ""), INDEX, 12, 1);
        due(Rows.numbers(1, 1, "a", "") + "x", FORM, 12, 1);
        due(Rows.numbers(1, 1, "a", "") + TRAILER, 1, -1, 1);
        due(Rows.numbers(0, 1, "a", "") + Rows.numbers(65535, 1, "b", "") + TRAILER, 2, -1, 2);
        due(Rows.numbers(1, 255, "a", "") + TRAILER, LOST, 0, 1);
    }

    private static void bounds() {
        due(Rows.numbersHead(1, 0, 255, 0x8000, 1), FORM, 4, 0);
        due(Rows.numbersHead(1, 1, 255, 0x8000, 1), SIZE, 5, 0);
        due(Rows.numbersHead(1, 1, 128, 0, 0), SIZE, 5, 0);
        due(Rows.numbersHead(1, 1, 1, 0x8000, 1), SIZE, 6, 0);
        due(Rows.numbersHead(1, 1, 127, 0xffff, 1), SIZE, 6, 0);
        due(Rows.numbersHead(1, 1, 127, 61, 1), FORM, 5, 0);
        due(Rows.numbersHead(1, 1, 0, 61, 1), FORM, 5, 0);
        due(Rows.numbersHead(1, 1, 1, 61, 1), FORM, 5, 0);
        due(Rows.numbersHead(1, 1, 22, 0, 0), FORM, 5, 0);
        due(Rows.numbersHead(1, 1, 2, 61, 1), FORM, 6, 0);
        due(Rows.numbersHead(1, 1, 21, 0x7fff, 1), FORM, 6, 0);
        due(Rows.numbersHead(1, 1, 21, 256, 1), FORM, 6, 0);
        due(Rows.numbersHead(1, 1, 2, 60, 1), INDEX, 10, 0);
        due(Rows.numbers(1, 1, "a", "") + Rows.numbersHead(1, 0, 2, 0, 0), FORM, 16, 1);
        due(Rows.numbers(1, 1, Check.times("n", 20), Check.times("\u00ff", 60)) + TRAILER, 1, -1, 1);
    }

    private static void names() {
        due(Rows.numbersHead(1, 1, 3, 0, 0) + "a", INDEX, 11, 0);
        due(Rows.numbersHead(1, 1, 3, 0, 0) + "a/", FORM, 11, 0);
        due(Rows.numbersHead(1, 1, 3, 0, 0) + "a\0", FORM, 11, 0);
        due(Rows.numbersHead(1, 1, 3, 0, 0) + " a", FORM, 10, 0);
        due(Rows.numbersHead(1, 1, 3, 0, 0) + "\u007fa", FORM, 10, 0);
        due(Rows.numbersHead(1, 1, 3, 0, 0) + "ab", INDEX, 12, 0);
        due(Rows.numbersHead(1, 1, 3, 0, 0) + "abc", FORM, 12, 0);
        due(Rows.numbersHead(1, 1, 3, 0, 0) + "ab\0", INDEX, 13, 0);
        due(Rows.numbersHead(1, 1, 3, 0, 0) + "ab\0x", FORM, 13, 0);
        due(Rows.numbersHead(1, 1, 3, 0, 0) + "ab\0\0", INDEX, 14, 1);
    }

    private static void contents() {
        due(Rows.numbersHead(1, 1, 2, 2, 9) + "a\0x", INDEX, 13, 0);
        due(Rows.numbersHead(1, 1, 2, 1, 9) + "a\0x", SUM, 8, 0);
        due(Rows.numbersHead(1, 1, 2, 1, 'x') + "a\0x", INDEX, 13, 0);
        due(Rows.numbersHead(1, 1, 2, 1, 'x') + "a\0xy", FORM, 13, 0);
        due(Rows.numbersHead(1, 1, 2, 1, 'y') + "a\0xy", SUM, 8, 0);
        due(Rows.numbersHead(1, 1, 2, 1, 'x') + "a\0x\0", INDEX, 14, 1);
        due(Rows.numbersHead(1, 1, 2, 0, 1) + "a\0", SUM, 8, 0);
        due(Rows.numbersHead(1, 1, 2, 1, 'x' + 256) + "a\0x\0", SUM, 8, 0);
        due(Rows.numbers(1, 1, "a", "bc") + Rows.numbersHead(1, 1, 2, 1, 9) + "a\0x", SUM, 22, 1);
    }

    private static void trailer() {
        due(TRAILER, 0, -1, 0);
        due(TRAILER + "\0\0\0", 0, -1, 0);
        due(TRAILER + "\0\0\1\2", FORM, 22, 0);
        due(TRAILER + TRAILER, FORM, 20, 0);
        due(TRAILER.substring(0, 18), INDEX, 18, 0);
        due(TRAILER.substring(0, 19), INDEX, 19, 0);
        due(TRAILER.substring(0, 19) + "x", FORM, 19, 0);
        due(Rows.numbersHead(0, 0, 9, 0, 0) + "TRAILER!\0\0", FORM, 4, 0);
        due(Rows.numbersHead(0, 1, 9, 61, 0) + "TRAILER!\0\0", FORM, 6, 0);
        due(Rows.numbers(1, 1, "TRAILER", "") + Rows.numbers(1, 1, "TRAILER!!", "")
                + Rows.numbers(2, 1, "trailer!", "") + TRAILER, 3, -1, 3);
        due(Rows.numbers(1, 1, "a", "xy") + Rows.numbersHead(1, 1, 9, 0, 0) + "TRAILER!\0\0", 1, -1, 1);
        due(Rows.numbers(1, 2, "a", "xy") + Rows.numbersHead(1, 2, 9, 0, 0) + "TRAILER!\0\0", LOST, 0, 1);
    }

    /** TRAILER! is no ENTRY that is READ, but has all the FINDINGS of one. */
    private static void trailerBytes() {
        due(Rows.numbersHead(0, 1, 9, 0, 1) + "TRAILER!\0\0", SUM, 8, 0);
        due(Rows.numbersHead(0, 1, 9, 0, 256) + "TRAILER!\0\0\1", SUM, 8, 0);
        due(Rows.numbers(1, 2, "a", "xy") + Rows.numbersHead(0, 1, 9, 0, 1) + "TRAILER!\0\0", SUM, 22, 1);
        due(Rows.numbersHead(0, 1, 9, 0, 1) + "TRAILER!\0x", FORM, 19, 0);
        due(Rows.numbersHead(0, 1, 9, 0, 1) + "TRAILER!\0", INDEX, 19, 0);
        due(Rows.numbersHead(77, 9, 9, 50, 1234) + "TRAILER!\0\0", INDEX, 20, 0);
        due(Rows.numbersHead(0, 1, 9, 50, 0) + "TRAILER!\0\0" + "\0".repeat(49), INDEX, 69, 0);
        due(Rows.numbersHead(0, 1, 9, 50, 0) + "TRAILER!\0\0" + "\0".repeat(50), 0, -1, 0);
        due(Rows.numbersHead(77, 9, 9, 2, 6) + "TRAILER!\0\0\2\3", SUM, 8, 0);
        due(Rows.numbersHead(77, 9, 9, 2, 5) + "TRAILER!\0\0\2\3", 0, -1, 0);
        due(Rows.numbersHead(77, 9, 9, 2, 5) + "TRAILER!\0\0\2\3\0\0\0", 0, -1, 0);
        due(Rows.numbersHead(77, 9, 9, 2, 5) + "TRAILER!\0\0\2\3\0\4", FORM, 23, 0);
        due(Rows.numbersHead(77, 9, 9, 1, 3) + "TRAILER!\0\0\3", INDEX, 21, 0);
        due(Rows.numbersHead(77, 9, 9, 1, 3) + "TRAILER!\0\0\3\4", FORM, 21, 0);
        due(Rows.numbersHead(77, 9, 9, 1, 4) + "TRAILER!\0\0\3\4", SUM, 8, 0);
        due(Rows.numbers(77, 9, "TRAILER!", Check.times("\u00ff", 60)), 0, -1, 0);
        SmallArchives x = Check.withRow(Rows.numbers(1, 2, "a", "A") + Rows.numbers(1, 2, "b", "B")
                + Rows.numbers(1, 2, "TRAILER!", "T"));
        CHECK.dueRead("12: TRAILER! counts for no group", x, 1, 2, -1, 2);
        CHECK.dueText("16: nor gives its bytes to one", Check.bytesOf(x, 0), "B");
        CHECK.due("15: no such ENTRY", x.told(2, 0, 0), SmallArchives.OUTSIDE);
    }

    private static void lost() {
        String a = Rows.numbers(1, 2, "a", "");
        due(a + TRAILER, LOST, 0, 1);
        due(a + a + TRAILER, 2, -1, 2);
        due(a + a + a + TRAILER, LOST, 0, 3);
        due(a + Rows.numbers(1, 3, "b", "") + TRAILER, LOST, 0, 2);
        due(a + Rows.numbers(1, 3, "b", "") + a + TRAILER, LOST, 12, 3);
        due(a + Rows.numbers(1, 1, "b", "") + TRAILER, LOST, 0, 2);
        due(a + Rows.numbers(2, 2, "b", "") + a + TRAILER, LOST, 12, 3);
        due(Rows.numbers(5, 1, "x", "") + a + TRAILER, LOST, 12, 2);
        due(Rows.numbers(5, 1, "x", "") + Rows.numbers(5, 1, "y", "") + TRAILER, 2, -1, 2);
        due(a + TRAILER + "x", FORM, 32, 1);
        due(a + TRAILER + "\0", LOST, 0, 1);
        due(a, INDEX, 12, 1);
    }

    private static void groups() {
        SmallArchives x = Check.withRow(Rows.numbers(7, 1, "one", "O") + Rows.numbers(1, 3, "a", "first")
                + Rows.numbers(7, 1, "two", "T") + Rows.numbers(1, 3, "b", "") + Rows.numbers(2, 2, "p", "P")
                + Rows.numbers(1, 3, "c", "last!!") + Rows.numbers(2, 2, "q", "") + TRAILER);
        CHECK.dueRead("12: groups", x, 1, 7, -1, 7);
        String[] bytes = {"O", "last!!", "T", "last!!", "", "last!!", ""};
        int[] first = {0, 1, 2, 1, 4, 1, 4};
        for (int i = 0; i < 7; i++) {
            CHECK.dueText("15, 16: bytes of " + i, Check.bytesOf(x, i), bytes[i]);
            CHECK.due("15: told(" + i + ", 3, 0)", x.told(i, 3, 0), first[i]);
        }
        CHECK.due("15: where the third begins", x.told(2, 2, 0), 16 + 18);
    }

    private static void groupsBehindFindings() {
        SmallArchives x = Check.withRow(Rows.numbers(1, 3, "a", "A") + Rows.numbers(1, 2, "b", "BB")
                + Rows.numbers(1, 1, "c", "C") + Rows.numbersHead(1, 3, 2, 1, 9) + "d\0D\0");
        CHECK.dueRead("12: a FINDING in a group", x, 1, SUM, 14 + 14 + 14 + 8, 3);
        CHECK.dueText("16: the last that was READ", Check.bytesOf(x, 0), "BB");
        CHECK.dueText("16: itself", Check.bytesOf(x, 1), "BB");
        CHECK.dueText("16: LINKS 1 is alone", Check.bytesOf(x, 2), "C");
        CHECK.due("15: told(1, 3, 0)", x.told(1, 3, 0), 0);
        CHECK.due("15: told(2, 3, 0)", x.told(2, 3, 0), 2);
        SmallArchives y = Check.withRow(Rows.numbers(1, 2, "a", "A") + Rows.numbers(1, 2, "b", "BB").substring(0, 11));
        CHECK.dueRead("12: cut in a group", y, 1, INDEX, 14 + 11, 1);
        CHECK.dueText("16: its own", Check.bytesOf(y, 0), "A");
        SmallArchives z = Check.withRow(Rows.numbers(1, 3, "a", "A") + Rows.numbers(1, 3, "b", "BB") + TRAILER);
        CHECK.dueRead("12: LOST", z, 1, LOST, 0, 2);
        CHECK.dueText("16: behind LOST", Check.bytesOf(z, 0), "BB");
        SmallArchives w = Check.withRow(Rows.numbers(1, 2, "a", "A") + Rows.numbersHead(1, 2, 2, 1, 'B') + "b\0Bx");
        CHECK.dueRead("12: a FINDING in the byte behind", w, 1, FORM, 14 + 13, 1);
        CHECK.dueText("16: the bytes of one that was not READ are none's", Check.bytesOf(w, 0), "A");
    }

    /** More calls than an object is promised for, but the limit of THE ROW must hold all the same. */
    private static void most() {
        SmallArchives x = Check.withRow(Rows.numbers(1, 125, "a", "").repeat(125));
        CHECK.dueRead("12: 125 ENTRIES", x, 1, INDEX, 1500, 125);
        CHECK.due("15: the last begins", x.told(124, 2, 0), 1488);
        CHECK.due("15: the first of all", x.told(124, 3, 0), 0);
        CHECK.due("15: no such ENTRY", x.told(125, 0, 0), SmallArchives.OUTSIDE);
    }

    private static void cutAnywhere() {
        String first = Rows.numbers(1, 2, "ab", "");
        String second = Rows.numbers(1, 2, "c", "xyz");
        SmallArchives x = Check.withRow(first + second + TRAILER);
        CHECK.dueRead("12: whole", x, 1, 2, -1, 2);
        for (int n = x.row(SmallArchives.NONE) - 1; n >= 0; n--) {
            x.cut(n);
            int entries = n >= first.length() + second.length() ? 2 : n >= first.length() ? 1 : 0;
            CHECK.dueRead("12: cut(" + n + ")", x, 1, INDEX, n, entries);
        }
    }
}
