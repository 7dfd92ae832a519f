/** Part 3 by FORM 2 and promise 12: each sentence that names an edge or a FINDING has a method of its own. */
public final class BoundsLinesTest {
    private static final Check CHECK = new Check("bounds of lines");
    private static final int NONE = SmallArchives.NONE, INDEX = -22, FORM = -24;
    private static final String FULL_LINE = Rows.FULL_LINE;
    private static final String A = Rows.lines("a", "");

    public static void main(String[] args) {
        toItsEnd();
        firstEnds();
        rowEnds();
        byteOfBegin();
        byteOfEnd();
        byteBehindSigns();
        nameByte();
        nameAboveTwenty();
        nameOfNone();
        moreThanSixty();
        byteForByte();
        countSigns();
        countAboveFifteen();
        countBehindShortLine();
        signs();
        lastSigns();
        lastSignsAreSigns();
        trailerIsAName();
        CHECK.end();
    }

    private static void due(String row, int answer, int place, int entries) {
        CHECK.dueReadOf(row, 2, answer, place, entries);
    }

    /** Every byte in this place: one may stand there, others are FORM there. */
    private static void dueEachByte(String row, int place, int entries) {
        for (int v = 0; v < 256; v++) {
            boolean may = v == row.charAt(place);
            due(A + row.substring(0, place) + (char) v + row.substring(place + 1), may ? entries + 1 : FORM,
                    may ? NONE : A.length() + place, may ? entries + 1 : 1);
        }
    }

    private static void toItsEnd() {
        CHECK.sentence("TO READ THE ROW by a FORM: ENTRY after ENTRY to its end");
        due("", 0, NONE, 0);
        due(A, 1, NONE, 1);
        due(A.repeat(30), 30, NONE, 30);
    }

    private static void firstEnds() {
        CHECK.sentence("FINDINGS, the first that is met ends it; the ENTRIES ahead are READ");
        due("x" + A, FORM, 0, 0);
        due(A + "\n" + A, FORM, 14, 1);
        due(A + A + "x" + "y", FORM, 28, 2);
        due(A + Rows.lines("", "") + "y", FORM, 20, 1);
    }

    private static void rowEnds() {
        CHECK.sentence("2 INDEX: THE ROW ends where more should stand (its length)");
        String first = Rows.lines(Check.times("n", 20), FULL_LINE + "!````\n");
        String row = first + A;
        for (int n = 0; n <= row.length(); n++) {
            boolean whole = n == 0 || n == first.length() || n == row.length();
            int entries = n == row.length() ? 2 : n >= first.length() ? 1 : 0;
            due(row.substring(0, n), whole ? entries : INDEX, whole ? NONE : n, entries);
        }
    }

    private static void byteOfBegin() {
        CHECK.sentence("4 FORM: a byte that may not stand there (its place): begin, a blank");
        for (int i = 0; i < 6; i++) {
            dueEachByte(A, i, 1);
        }
    }

    private static void byteOfEnd() {
        CHECK.sentence("4 FORM: a byte that may not stand there: a line of the sign for 0 alone; then end, 10");
        for (int i = 9; i < 14; i++) {
            dueEachByte(A, i, 1);
        }
        due("begin a\n`\n`\nend\n", FORM, 10, 0);
        due("begin a\n!````\nend\n", FORM, 14, 0);
    }

    private static void byteBehindSigns() {
        CHECK.sentence("4 FORM: a byte that may not stand there: four signs of 6 bits each ..; 10");
        dueEachByte(Rows.lines("b", "!````\n"), 13, 1);
        dueEachByte(Rows.lines("b", FULL_LINE), 8 + 21, 1);
        due(Rows.lines("b", "!`````\n"), FORM, 13, 0);
        due(Rows.lines("b", "#```\n"), FORM, 12, 0);
        due(Rows.lines("b", "$````\n"), FORM, 13, 0);
    }

    private static void nameByte() {
        CHECK.sentence("a NAME with a byte that is none (at it");
        for (int v = 0; v < 256; v++) {
            boolean may = v >= 33 && v <= 126 && v != '/';
            for (int k = 0; k < 3; k++) {
                String name = "abc".substring(0, k) + (char) v + "abc".substring(k + 1);
                // The byte 10 behind a NAME ends it: what follows is its first line then.
                boolean ends = v == 10 && k > 0;
                due(Rows.lines(name, ""), may ? 1 : FORM, may ? NONE : ends ? 7 + k : 6 + k, may ? 1 : 0);
            }
        }
    }

    private static void nameAboveTwenty() {
        CHECK.sentence("or above 20 bytes (.. 2: the 21st byte");
        for (int n = 1; n <= 30; n++) {
            boolean may = n <= 20;
            due(Rows.lines(Check.times("n", n), ""), may ? 1 : FORM, may ? NONE : 26, may ? 1 : 0);
        }
        due("begin " + Check.times("n", 20), INDEX, 26, 0);
        due("begin " + Check.times("n", 20) + " ", FORM, 26, 0);
        due(A + "begin " + Check.times("n", 21), FORM, 14 + 26, 1);
    }

    private static void nameOfNone() {
        CHECK.sentence("or of none (.. 2: .. the 10 in its place");
        due("begin \n`\nend\n", FORM, 6, 0);
        due("begin \n", FORM, 6, 0);
        due("begin ", INDEX, 6, 0);
        due(A + "begin \n", FORM, 20, 1);
    }

    private static void moreThanSixty() {
        CHECK.sentence("lines that come to more than 60 bytes (.. at the line)");
        due(Rows.lines("a", FULL_LINE.repeat(4)), 1, NONE, 1);
        due(Rows.lines("a", FULL_LINE.repeat(5)), FORM, 8 + 88, 0);
        due(Rows.lines("a", FULL_LINE.repeat(4) + "!````\n"), FORM, 8 + 88, 0);
        due("begin a\n" + FULL_LINE.repeat(4) + "!", FORM, 8 + 88, 0);
        due("begin a\n" + FULL_LINE.repeat(4), INDEX, 8 + 88, 0);
        for (int n = 1; n <= 15; n++) {
            String line = (char) (32 + n) + "````".repeat((n + 2) / 3) + "\n";
            due(Rows.lines("a", FULL_LINE.repeat(3) + line), 1, NONE, 1);
            due(A + Rows.lines("a", FULL_LINE.repeat(4) + line), FORM, 14 + 8 + 88, 1);
        }
    }

    private static void byteForByte() {
        CHECK.sentence("In an ENTRY: byte for byte");
        due("begim", FORM, 4, 0);
        due("begi", INDEX, 4, 0);
        due("begin a b", FORM, 7, 0);
        due("begin a", INDEX, 7, 0);
        due("begin a\n!``", INDEX, 11, 0);
        due("begin a\n!` `", FORM, 10, 0);
        due("begin a\n!```` ", FORM, 13, 0);
        due("begin a\n0 ", FORM, 8, 0);
    }

    private static void countSigns() {
        CHECK.sentence("FORM 2: signs are 33 to 96 (else FORM): the sign for how many they are");
        for (int v = 0; v < 256; v++) {
            int count = v == 96 ? 0 : v - 32;
            boolean may = v == 96 || v >= 33 && count <= 15;
            String signs = may ? "````".repeat((count + 2) / 3) : "";
            String line = (char) v + signs + "\n";
            due("begin a\n" + (v == 96 ? "" : line) + "`\nend\n", may ? 1 : FORM, may ? NONE : 8, may ? 1 : 0);
        }
    }

    private static void countAboveFifteen() {
        CHECK.sentence("a count above 15 .. FORM at it");
        for (int count = 1; count <= 63; count++) {
            boolean may = count <= 15;
            String line = (char) (32 + count) + "````".repeat((count + 2) / 3) + "\n";
            due(Rows.lines("a", line), may ? 1 : FORM, may ? NONE : 8, may ? 1 : 0);
            due(Rows.lines("a", FULL_LINE + line), may ? 1 : FORM, may ? NONE : 30, may ? 1 : 0);
        }
    }

    private static void countBehindShortLine() {
        CHECK.sentence("or one behind a line of fewer than 15: FORM at it");
        for (int first = 1; first <= 15; first++) {
            String line = (char) (32 + first) + "````".repeat((first + 2) / 3) + "\n";
            for (int second : new int[] {1, 14, 15}) {
                String next = (char) (32 + second) + "````".repeat((second + 2) / 3) + "\n";
                boolean may = first == 15;
                due(Rows.lines("a", line + next), may ? 1 : FORM, may ? NONE : 8 + line.length(), may ? 1 : 0);
            }
            due(Rows.lines("a", line), 1, NONE, 1);
        }
        due(Rows.lines("a", FULL_LINE + "!````\n!````\n"), FORM, 8 + 22 + 6, 0);
    }

    private static void signs() {
        CHECK.sentence("signs are 33 to 96 (else FORM)");
        for (int v = 0; v < 256; v++) {
            boolean may = v >= 33 && v <= 96;
            for (int k = 0; k < 4; k++) {
                String four = "````".substring(0, k) + (char) v + "````".substring(k + 1);
                SmallArchives x = Check.withRow(Rows.lines("a", "#" + four + "\n"));
                CHECK.dueRead("the sign " + v, x, 2, may ? 1 : FORM, may ? NONE : 9 + k, may ? 1 : 0);
                if (may) {
                    int three = (v - 32 & 63) << 18 - 6 * k;
                    CHECK.due("three bytes of it", x.got(0, 0) << 16 | x.got(0, 1) << 8 | x.got(0, 2), three);
                }
            }
        }
    }

    private static void dueBytes(String lines, String bytes) {
        SmallArchives x = Check.withRow(Rows.lines("a", lines));
        CHECK.dueRead(lines.trim(), x, 2, 1, NONE, 1);
        CHECK.dueText("its bytes", Check.bytesOf(x, 0), bytes);
        CHECK.dueThrow("behind them", x, 0, bytes.length());
    }

    private static void lastSigns() {
        CHECK.sentence("of the last signs of a line just what the count needs is looked at");
        dueBytes("!____\n", "\u00ff");
        dueBytes("!`/__\n", "\0");
        dueBytes("!`0__\n", "\1");
        dueBytes("\"____\n", "\u00ff\u00ff");
        dueBytes("\"``#_\n", "\0\0");
        dueBytes("\"``$_\n", "\0\1");
        dueBytes("#____\n", "\u00ff\u00ff\u00ff");
        dueBytes("$````____\n", "\0\0\0\u00ff");
        dueBytes("." + "````".repeat(4) + "___`\n", Check.times("\0", 12) + "\u00ff\u00ff");
    }

    private static void lastSignsAreSigns() {
        CHECK.sentence("(they are signs all the same)");
        for (int v : new int[] {0, 10, 32, 97, 126, 255}) {
            due(Rows.lines("a", "!``" + (char) v + "`\n"), FORM, 11, 0);
            due(Rows.lines("a", "!```" + (char) v + "\n"), FORM, 12, 0);
            due(Rows.lines("a", "\"```" + (char) v + "\n"), FORM, 12, 0);
        }
        due("begin a\n!``", INDEX, 11, 0);
        due("begin a\n!```", INDEX, 12, 0);
    }

    private static void trailerIsAName() {
        CHECK.sentence("(FORM 1: to TRAILER!)");
        due(Rows.lines("TRAILER!", "") + A, 2, NONE, 2);
        CHECK.dueReadOf(Rows.START + Rows.table("TRAILER!/\n") + Rows.heads("/0", "0", "")
                + Rows.heads("a/", "0", ""), 0, 2, NONE, 2);
    }
}
