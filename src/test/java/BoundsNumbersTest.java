/** Part 3 by FORM 1 and promise 12: each sentence that names an edge or a FINDING has a method of its own. */
public final class BoundsNumbersTest {
    private static final Check CHECK = new Check("bounds of numbers");
    private static final int NONE = SmallArchives.NONE, INDEX = -22, SIZE = -23, FORM = -24, SUM = -25, LOST = -26;
    private static final String TRAILER = Rows.TRAILER;
    private static final String A = Rows.numbers(1, 1, "a", "");

    public static void main(String[] args) {
        toTrailer();
        firstEnds();
        rowEnds();
        sizeBelowZero();
        nameSizeBelowZero();
        byteOfMark();
        byteBehindName();
        byteForOdd();
        nameByte();
        nameSizeBound();
        linksZero();
        behindTrailer();
        sizeBound();
        otherSum();
        lost();
        lostAtFirst();
        lostAtTheEnd();
        byteForByte();
        orderOfHead();
        orderOfSum();
        groupBytes();
        groupBehindFinding();
        trailerIsNone();
        trailerEndsAll();
        CHECK.end();
    }

    private static void due(String row, int answer, int place, int entries) {
        CHECK.dueReadOf(row, 1, answer, place, entries);
    }

    private static String head(int links, int nameSize, int size, int sum) {
        return Rows.numbersHead(1, links, nameSize, size, sum);
    }

    /** Every byte in this place of the ENTRY ahead of TRAILER!: one may stand there, others are FORM there. */
    private static void dueEachByte(String entry, int place, int may) {
        for (int v = 0; v < 256; v++) {
            String row = A + entry.substring(0, place) + (char) v + entry.substring(place + 1) + TRAILER;
            due(row, v == may ? 2 : FORM, v == may ? NONE : A.length() + place, v == may ? 2 : 1);
        }
    }

    private static void toTrailer() {
        CHECK.sentence("TO READ THE ROW .. (FORM 1: to TRAILER!)");
        due("", INDEX, 0, 0);
        due(TRAILER, 0, NONE, 0);
        due(A, INDEX, A.length(), 1);
        due(A + TRAILER, 1, NONE, 1);
        due(A.repeat(35) + TRAILER, 35, NONE, 35);
    }

    private static void firstEnds() {
        CHECK.sentence("FINDINGS, the first that is met ends it; the ENTRIES ahead are READ");
        due(A + "x" + A + "y", FORM, 12, 1);
        due(A + A + head(1, 2, 0, 1) + "b\0" + A + TRAILER, SUM, 32, 2);
        due(A + Rows.numbers(1, 2, "b", "") + "x", FORM, 24, 2);
    }

    private static void rowEnds() {
        CHECK.sentence("2 INDEX: THE ROW ends where more should stand (its length)");
        String first = Rows.numbers(1, 2, "even", "odd");
        String second = first + Rows.numbers(1, 2, Check.times("n", 20), Check.times("d", 60));
        String row = second + TRAILER;
        for (int n = 0; n < row.length(); n++) {
            due(row.substring(0, n), INDEX, n, n >= second.length() ? 2 : n >= first.length() ? 1 : 0);
        }
        due(row, 2, NONE, 2);
    }

    private static void sizeBelowZero() {
        CHECK.sentence("3 SIZE: SIZE .. is below 0 (its place)");
        for (int size : new int[] {0x8000, 0x8001, 0x803c, 0xff00, 0xfffe, 0xffff}) {
            due(head(1, 2, size, 0) + "a\0", SIZE, 6, 0);
            due(A + head(1, 2, size, 0) + "a\0", SIZE, 18, 1);
        }
        due(head(1, 2, 0x7fff, 0) + "a\0", FORM, 6, 0);
        due(head(1, 2, 0, 0) + "a\0" + TRAILER, 1, NONE, 1);
    }

    private static void nameSizeBelowZero() {
        CHECK.sentence("3 SIZE: .. or how many bytes the NAME has, and 1, is below 0 (its place)");
        for (int nameSize = 128; nameSize < 256; nameSize++) {
            due(head(1, nameSize, 0, 0) + "a\0", SIZE, 5, 0);
        }
        due(A + head(1, 255, 0, 0) + "a\0", SIZE, 17, 1);
        due(head(1, 127, 0, 0) + "a\0", FORM, 5, 0);
        due(head(1, 0, 0, 0) + "a\0", FORM, 5, 0);
    }

    private static void byteOfMark() {
        CHECK.sentence("4 FORM: a byte that may not stand there (its place): 199, 113");
        dueEachByte(A, 0, 199);
        dueEachByte(A, 1, 113);
        due("\u00c8", FORM, 0, 0);
        due("\u00c7r", FORM, 1, 0);
    }

    private static void byteBehindName() {
        CHECK.sentence("4 FORM: a byte that may not stand there: the NAME, a byte 0; a byte 0, if these are odd");
        dueEachByte(A, 11, 0);
        dueEachByte(Rows.numbers(1, 1, "ab", ""), 12, 0);
        dueEachByte(Rows.numbers(1, 1, "ab", ""), 13, 0);
        dueEachByte(Rows.numbers(1, 1, Check.times("n", 20), ""), 30, 0);
        dueEachByte(Rows.numbers(1, 1, Check.times("n", 20), ""), 31, 0);
        due(head(1, 2, 0, 0) + "a\0\0" + TRAILER, FORM, 12, 1);
        due(head(1, 3, 0, 0) + "ab\0" + TRAILER, FORM, 13, 0);
    }

    private static void byteForOdd() {
        CHECK.sentence("4 FORM: a byte that may not stand there: SIZE bytes, a byte 0, if these are odd");
        dueEachByte(Rows.numbers(1, 1, "b", "x"), 13, 0);
        dueEachByte(Rows.numbers(1, 1, "b", Check.times("x", 59)), 12 + 59, 0);
        due(Rows.numbers(1, 1, "b", "xy") + "\0" + TRAILER, FORM, 14, 1);
    }

    private static void nameByte() {
        CHECK.sentence("a NAME with a byte that is none (at it");
        for (int v = 0; v < 256; v++) {
            boolean may = v >= 33 && v <= 126 && v != '/';
            for (int k = 0; k < 3; k++) {
                String name = "abc".substring(0, k) + (char) v + "abc".substring(k + 1);
                due(Rows.numbers(1, 1, name, "") + TRAILER, may ? 1 : FORM, may ? NONE : 10 + k, may ? 1 : 0);
            }
        }
        due(head(1, 4, 0, 0) + "a/ ", FORM, 11, 0);
    }

    private static void nameSizeBound() {
        CHECK.sentence("a NAME .. above 20 bytes, or of none (.. 1: that of how many it has");
        for (int nameSize = 0; nameSize < 128; nameSize++) {
            boolean may = nameSize >= 2 && nameSize <= 21;
            String name = Check.times("n", Math.max(0, nameSize - 1)) + "\0";
            due(head(1, nameSize, 0, 0) + name + "\0".repeat(name.length() % 2) + TRAILER, may ? 1 : FORM,
                    may ? NONE : 5, may ? 1 : 0);
        }
    }

    private static void linksZero() {
        CHECK.sentence("LINKS 0 (at it)");
        due(Rows.numbers(1, 0, "a", "") + TRAILER, FORM, 4, 0);
        due(A + Rows.numbers(1, 0, "a", "") + TRAILER, FORM, 16, 1);
        due(Rows.numbers(1, 1, "a", "") + TRAILER, 1, NONE, 1);
        due(Rows.numbers(1, 255, "a", "") + TRAILER, LOST, 0, 1);
        due(Rows.numbers(1, 128, "a", "") + TRAILER, LOST, 0, 1);
        due(Rows.numbers(0, 0, "TRAILER!", ""), FORM, 4, 0);
    }

    private static void behindTrailer() {
        CHECK.sentence("behind TRAILER! another byte than 0");
        for (int v = 0; v < 256; v++) {
            due(TRAILER + (char) v, v == 0 ? 0 : FORM, v == 0 ? NONE : 20, 0);
            due(A + TRAILER + "\0\0" + (char) v + "\1", FORM, v == 0 ? 35 : 34, 1);
        }
        due(TRAILER + Check.times("\0", 400), 0, NONE, 0);
        due(TRAILER + Check.times("\0", 400) + "\1", FORM, 420, 0);
    }

    private static void sizeBound() {
        CHECK.sentence("a SIZE .. more than 60 bytes (.. at the SIZE");
        for (int n = 0; n <= 70; n++) {
            boolean may = n <= 60;
            due(Rows.numbers(1, 1, "a", Check.times("d", n)) + TRAILER, may ? 1 : FORM, may ? NONE : 6, may ? 1 : 0);
        }
        for (int size : new int[] {255, 256, 257, 0x3c00, 0x7f00, 0x7fff}) {
            due(A + head(1, 2, size, 0) + "a\0", FORM, 18, 1);
        }
    }

    private static void otherSum() {
        CHECK.sentence("5 SUM: it is another one (at it)");
        String bytes = Check.times("\u00ff", 60);
        for (int sum : new int[] {0, 15299, 15300, 15301, 15300 - 256, 15300 + 256, 15300 + 32768, 65535}) {
            due(head(1, 2, 60, sum) + "a\0" + bytes + TRAILER, sum == 15300 ? 1 : SUM, sum == 15300 ? NONE : 8,
                    sum == 15300 ? 1 : 0);
        }
        due(A + head(1, 2, 0, 1) + "a\0", SUM, 20, 1);
        due(A + head(1, 2, 0, 0x8000) + "a\0", SUM, 20, 1);
        due(head(1, 2, 2, 256) + "a\0\u00ff\1" + TRAILER, 1, NONE, 1);
        due(head(1, 2, 2, 0) + "a\0\u00ff\1" + TRAILER, SUM, 8, 0);
    }

    private static void lost() {
        CHECK.sentence("6 LOST: at the end, LINKS above 1, and not as many ENTRIES with that NUMBER and LINKS");
        for (int links = 1; links <= 8; links++) {
            String one = Rows.numbers(7, links, "a", "");
            for (int n = 1; n <= 10; n++) {
                boolean may = links == 1 || n == links;
                due(one.repeat(n) + TRAILER, may ? n : LOST, may ? NONE : 0, n);
            }
        }
        due(Rows.numbers(1, 30, "a", "").repeat(30) + TRAILER, 30, NONE, 30);
        due(Rows.numbers(0, 2, "a", "").repeat(2) + TRAILER, 2, NONE, 2);
        due(Rows.numbers(65535, 2, "a", "").repeat(2) + TRAILER, 2, NONE, 2);
        String two = Rows.numbers(1, 2, "a", "");
        due(two + Rows.numbers(1, 1, "b", "") + TRAILER, LOST, 0, 2);
        due(two + Rows.numbers(1, 3, "b", "") + TRAILER, LOST, 0, 2);
        due(two + Rows.numbers(257, 2, "b", "") + TRAILER, LOST, 0, 2);
        due(two + Rows.numbers(2, 2, "b", "") + TRAILER, LOST, 0, 2);
        due(two + two + Rows.numbers(1, 3, "b", "").repeat(3) + TRAILER, 5, NONE, 5);
    }

    private static void lostAtFirst() {
        CHECK.sentence("6 LOST: .. (at the first such ENTRY)");
        String two = Rows.numbers(1, 2, "a", "");
        String three = Rows.numbers(2, 3, "b", "");
        due(two + three + two + three + TRAILER, LOST, 12, 4);
        due(A + two + A + TRAILER, LOST, 12, 3);
        due(three + two + TRAILER, LOST, 0, 2);
        due(A + A + two + three + TRAILER, LOST, 24, 4);
    }

    private static void lostAtTheEnd() {
        CHECK.sentence("6 LOST: at the end");
        String two = Rows.numbers(1, 2, "a", "");
        due(two, INDEX, 12, 1);
        due(two + "x", FORM, 12, 1);
        due(two + TRAILER.substring(0, 19), INDEX, 31, 1);
        due(two + TRAILER + "\0", LOST, 0, 1);
        due(two + TRAILER + "\0\1", FORM, 33, 1);
        due(two + Rows.numbersHead(0, 1, 9, 0, 1) + "TRAILER!\0\0", SUM, 20, 1);
    }

    private static void byteForByte() {
        CHECK.sentence("In an ENTRY: byte for byte; FORM 1: behind the last byte of SUM: ..");
        String bad = head(0, 255, 0xffff, 0xffff);
        for (int n = 0; n < 10; n++) {
            due(bad.substring(0, n), INDEX, n, 0);
        }
        due(bad, FORM, 4, 0);
        due("\u00c7\u00c7" + bad.substring(2), FORM, 1, 0);
        due("q" + bad.substring(1), FORM, 0, 0);
        due(head(1, 4, 0, 0) + "ab ", FORM, 12, 0);
        due(head(1, 4, 0, 0) + "ab", INDEX, 12, 0);
        due(head(1, 4, 2, 0) + "abc", INDEX, 13, 0);
        due(head(1, 4, 2, 0) + "abcd", FORM, 13, 0);
    }

    private static void orderOfHead() {
        CHECK.sentence("LINKS 0, how many bytes the NAME has below 0, SIZE below 0, the bounds of the one (2 to 21), "
                + "of the other, then the NAME");
        due(head(0, 255, 0xffff, 1) + " ", FORM, 4, 0);
        due(head(0, 22, 61, 1) + " ", FORM, 4, 0);
        due(head(1, 255, 0xffff, 1) + " ", SIZE, 5, 0);
        due(head(1, 255, 61, 1) + " ", SIZE, 5, 0);
        due(head(1, 22, 0xffff, 1) + " ", SIZE, 6, 0);
        due(head(1, 1, 0x8000, 1) + " ", SIZE, 6, 0);
        due(head(1, 22, 61, 1) + " ", FORM, 5, 0);
        due(head(1, 1, 61, 1) + " ", FORM, 5, 0);
        due(head(1, 2, 61, 1) + " ", FORM, 6, 0);
        due(head(1, 21, 61, 1) + " ", FORM, 6, 0);
        due(head(1, 21, 60, 1) + " ", FORM, 10, 0);
        due(head(1, 2, 60, 1), INDEX, 10, 0);
    }

    private static void orderOfSum() {
        CHECK.sentence("SUM behind the bytes, ahead of the byte 0 for odd ones");
        due(head(1, 2, 1, 9) + "a\0", INDEX, 12, 0);
        due(head(1, 2, 1, 9) + "a\1", FORM, 11, 0);
        due(head(1, 2, 1, 9) + "a\0x", SUM, 8, 0);
        due(head(1, 2, 1, 9) + "a\0x\1", SUM, 8, 0);
        due(head(1, 2, 1, 'x') + "a\0x", INDEX, 13, 0);
        due(head(1, 2, 1, 'x') + "a\0x\1", FORM, 13, 0);
        due(head(1, 2, 0, 1) + "a\0", SUM, 8, 0);
        due(head(1, 3, 0, 1) + "ab\0\1", FORM, 13, 0);
    }

    private static void dueBytes(SmallArchives x, String... bytes) {
        CHECK.due("entries()", x.entries(), bytes.length);
        for (int i = 0; i < bytes.length; i++) {
            CHECK.dueText("the bytes of " + i, Check.bytesOf(x, i), bytes[i]);
            CHECK.dueThrow("got(" + i + ", " + bytes[i].length() + ")", x, i, bytes[i].length());
        }
    }

    private static SmallArchives read(String row, int answer) {
        SmallArchives x = Check.withRow(row);
        CHECK.due("read(1)", x.read(1), answer);
        return x;
    }

    private static void groupBytes() {
        CHECK.sentence("FORM 1 READ: ENTRIES of one NUMBER with LINKS above 1 have the bytes of the last of them");
        dueBytes(read(Rows.numbers(1, 2, "a", "first") + Rows.numbers(1, 2, "b", "") + TRAILER, 2), "", "");
        dueBytes(read(Rows.numbers(1, 2, "a", "") + Rows.numbers(1, 2, "b", "last") + TRAILER, 2), "last", "last");
        dueBytes(read(Rows.numbers(1, 1, "a", "A") + Rows.numbers(1, 1, "b", "") + TRAILER, 2), "A", "");
        dueBytes(read(Rows.numbers(1, 2, "a", "A") + Rows.numbers(1, 1, "b", "B") + Rows.numbers(1, 2, "c", "C")
                + TRAILER, 3), "C", "B", "C");
        dueBytes(read(Rows.numbers(1, 2, "a", "A") + Rows.numbers(1, 3, "b", "B") + TRAILER, LOST), "B", "B");
        dueBytes(read(Rows.numbers(0, 2, "a", "A") + Rows.numbers(0, 2, "b", "B") + TRAILER, 2), "B", "B");
        dueBytes(read(Rows.numbers(1, 2, "a", "A") + Rows.numbers(2, 2, "b", "B") + Rows.numbers(2, 2, "c", "")
                + Rows.numbers(1, 2, "d", Check.times("D", 60)) + TRAILER, 4),
                Check.times("D", 60), "", "", Check.times("D", 60));
    }

    private static void groupBehindFinding() {
        CHECK.sentence("that was READ (behind a FINDING, too)");
        String two = Rows.numbers(1, 2, "a", "A") + Rows.numbers(1, 2, "b", "BB");
        dueBytes(read(two, INDEX), "BB", "BB");
        dueBytes(read(two + "x", FORM), "BB", "BB");
        dueBytes(read(two.substring(0, 27), INDEX), "A");
        dueBytes(read(two + head(2, 2, 1, 9) + "c\0C\0", SUM), "BB", "BB");
        dueBytes(read(two + head(2, 2, 1, 'C') + "c\0C\1", FORM), "BB", "BB");
        dueBytes(read(two + TRAILER + "\1", FORM), "BB", "BB");
        dueBytes(read(two + Rows.numbers(1, 2, "c", "") + TRAILER, LOST), "", "", "");
    }

    private static void trailerIsNone() {
        CHECK.sentence("An ENTRY with the NAME TRAILER! is none, whatever else it tells");
        due(Rows.numbers(0, 1, "TRAILER!", ""), 0, NONE, 0);
        due(Rows.numbers(65535, 255, "TRAILER!", ""), 0, NONE, 0);
        due(A + Rows.numbers(1, 2, "TRAILER!", ""), 1, NONE, 1);
        due(A + Rows.numbers(1, 2, "TRAILER!", "x"), 1, NONE, 1);
        due(A + Rows.numbers(1, 2, "TRAILER!", Check.times("x", 60)), 1, NONE, 1);
        due(Rows.numbers(1, 2, "a", "") + Rows.numbers(1, 2, "TRAILER!", ""), LOST, 0, 1);
        dueBytes(read(Rows.numbers(1, 2, "a", "").repeat(2) + Rows.numbers(1, 2, "TRAILER!", "x"), 2), "", "");
        due(Rows.numbersHead(0, 1, 9, 0, 1) + "TRAILER!\0\0", SUM, 8, 0);
        due(Rows.numbers(0, 1, "TRAILER", "") + Rows.numbers(0, 1, "TRAILER!!", "") + TRAILER, 2, NONE, 2);
        due(Rows.numbers(0, 1, "TRAILER?", "") + Rows.numbers(0, 1, "tRAILER!", "") + TRAILER, 2, NONE, 2);
    }

    private static void trailerEndsAll() {
        CHECK.sentence("and ends all");
        due(A + TRAILER + A, FORM, 32, 1);
        due(TRAILER + TRAILER, FORM, 20, 0);
        due(A + Rows.numbers(1, 2, "TRAILER!", "x") + "\0\0\0", 1, NONE, 1);
        due(A + Rows.numbers(1, 2, "TRAILER!", "x") + "\0\1", FORM, 12 + 22 + 1, 1);
    }
}
