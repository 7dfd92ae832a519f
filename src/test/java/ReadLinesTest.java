/** Promises 12 to 14 by FORM 2: what is READ, and every FINDING with its place. */
public final class ReadLinesTest {
    private static final Check CHECK = new Check("read lines");
    private static final int INDEX = -22, FORM = -24;
    private static final String FULL_LINE = Rows.FULL_LINE;

    public static void main(String[] args) {
        begins();
        names();
        counts();
        signs();
        lines();
        ends();
        cutAnywhere();
        CHECK.end();
    }

    private static void due(String row, int answer, int place, int entries) {
        CHECK.dueReadOf(row, 2, answer, place, entries);
    }

    private static void begins() {
        due("", 0, -1, 0);
        due("begin a\n`\nend\n", 1, -1, 1);
        due("begin a\n`\nend\nbegin b\n`\nend\n", 2, -1, 2);
        due("Begin a\n`\nend\n", FORM, 0, 0);
        due("begin\ta\n`\nend\n", FORM, 5, 0);
        due("begim a\n`\nend\n", FORM, 4, 0);
        due("begin a\n`\nend\n\n", FORM, 14, 1);
        due("begin a\n`\nend\nbeg", INDEX, 17, 1);
    }

    private static void names() {
        due("begin \n", FORM, 6, 0);
        due("begin ", INDEX, 6, 0);
        due("begin a", INDEX, 7, 0);
        due("begin  a\n", FORM, 6, 0);
        due("begin a b\n", FORM, 7, 0);
        due("begin a/b\n", FORM, 7, 0);
        due("begin a\u007f\n", FORM, 7, 0);
        due("begin a\0\n", FORM, 7, 0);
        due("begin " + Check.times("n", 20) + "\n`\nend\n", 1, -1, 1);
        due("begin " + Check.times("n", 21) + "\n`\nend\n", FORM, 26, 0);
        due("begin " + Check.times("n", 20) + " \n", FORM, 26, 0);
        due("begin " + Check.times("n", 20), INDEX, 26, 0);
        due("begin TRAILER!\n`\nend\n", 1, -1, 1);
    }

    private static void counts() {
        due("begin a\n", INDEX, 8, 0);
        due("begin a\n \nend\n", FORM, 8, 0);
        due("begin a\na", FORM, 8, 0);
        due("begin a\n\n", FORM, 8, 0);
        due("begin a\n0" + "````".repeat(6) + "\n", FORM, 8, 0);
        due("begin a\n_", FORM, 8, 0);
        due("begin a\n" + FULL_LINE + "`\nend\n", 1, -1, 1);
        due("begin a\n!````\n!", FORM, 14, 0);
        due("begin a\n!````\n/", FORM, 14, 0);
        due("begin a\n." + "````".repeat(5) + "\n!", FORM, 30, 0);
        due("begin a\n" + FULL_LINE + "!````\n`\nend\n", 1, -1, 1);
        due("begin a\n" + FULL_LINE.repeat(4) + "`\nend\n", 1, -1, 1);
        due("begin a\n" + FULL_LINE.repeat(4) + "!````\n`\nend\n", FORM, 8 + 4 * 22, 0);
        due("begin a\n" + FULL_LINE.repeat(4) + "!", FORM, 8 + 4 * 22, 0);
        due("begin a\n" + FULL_LINE.repeat(4), INDEX, 8 + 4 * 22, 0);
    }

    private static void signs() {
        due("begin a\n! ```\n", FORM, 9, 0);
        due("begin a\n!```a\n", FORM, 12, 0);
        due("begin a\n!```\n", FORM, 12, 0);
        due("begin a\n!```", INDEX, 12, 0);
        due("begin a\n!````x", FORM, 13, 0);
        due("begin a\n$````\n", FORM, 13, 0);
        due("begin a\n!````", INDEX, 13, 0);
        SmallArchives x = Check.withRow("begin a\n!____\n`\nend\n");
        CHECK.dueRead("12: signs that are not needed", x, 2, 1, -1, 1);
        CHECK.dueText("16: just what the count needs", Check.bytesOf(x, 0), "\u00ff");
        SmallArchives y = Check.withRow("begin a\n\"!!!_\n`\nend\n");
        CHECK.dueRead("12: two of three", y, 2, 1, -1, 1);
        CHECK.dueText("16: two of three", Check.bytesOf(y, 0), "\4\20");
    }

    private static void lines() {
        String bytes = "";
        for (int i = 0; i < 60; i++) {
            bytes += (char) (i * 37 + 5 & 255);
        }
        for (int n = 0; n <= 60; n++) {
            SmallArchives x = new SmallArchives();
            Check.add(x, "n", bytes.substring(0, n));
            x.write(2);
            CHECK.dueRead("12: " + n + " bytes", x, 2, 1, -1, 1);
            CHECK.dueText("16: " + n + " bytes", Check.bytesOf(x, 0), bytes.substring(0, n));
            CHECK.due("17: same()", x.same(), 1);
        }
    }

    private static void ends() {
        due("begin a\n`", INDEX, 9, 0);
        due("begin a\n`x", FORM, 9, 0);
        due("begin a\n`\n", INDEX, 10, 0);
        due("begin a\n`\n`\n", FORM, 10, 0);
        due("begin a\n`\nenf\n", FORM, 12, 0);
        due("begin a\n`\nend", INDEX, 13, 0);
        due("begin a\n`\nend ", FORM, 13, 0);
    }

    private static void cutAnywhere() {
        SmallArchives x = new SmallArchives();
        Check.add(x, "first", "0123456789abcdef");
        Check.add(x, "b", "");
        int size = x.write(2);
        int second = size - 14;
        for (int n = size - 1; n >= 0; n--) {
            x.cut(n);
            boolean whole = n == second || n == 0;
            int entries = n >= second ? 1 : 0;
            CHECK.dueRead("12: cut(" + n + ")", x, 2, whole ? entries : INDEX, whole ? -1 : n, entries);
        }
    }
}
