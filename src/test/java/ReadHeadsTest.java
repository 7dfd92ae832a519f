/** Promises 12 to 14 by FORM 0: what is READ, and every FINDING with its place. */
public final class ReadHeadsTest {
    private static final Check CHECK = new Check("read heads");
    private static final String START = Rows.START;
    private static final int NULL = -21, INDEX = -22, FORM = -24;

    public static void main(String[] args) {
        forms();
        start();
        nameField();
        sizeField();
        headEnd();
        contents();
        table();
        longNames();
        order();
        cutAnywhere();
        CHECK.end();
    }

    private static void due(String row, int answer, int place, int entries) {
        CHECK.dueReadOf(row, 0, answer, place, entries);
    }

    private static void forms() {
        SmallArchives x = Check.withRow(START + Rows.heads("a/", "0", "") + "x");
        CHECK.dueRead("12: a FINDING", x, 0, FORM + 2, 19, 1);
        int[] bad = {Integer.MIN_VALUE, -1, 3, Integer.MAX_VALUE};
        for (int form : bad) {
            CHECK.due("12: read(" + form + ")", x.read(form), SmallArchives.OUTSIDE);
        }
        CHECK.due("13: place() stays behind OUTSIDE", x.place(), 19);
        CHECK.due("14: entries() stays behind OUTSIDE", x.entries(), 1);
        x.cut(18);
        CHECK.due("13: place() stays behind a cut", x.place(), 19);
        CHECK.dueRead("12: whole", x, 0, 1, SmallArchives.NONE, 1);
        x.cut(0);
        CHECK.due("14: entries() stays behind a cut", x.entries(), 1);
        CHECK.dueRead("12: empty", x, 0, INDEX, 0, 0);
    }

    private static void start() {
        due("", INDEX, 0, 0);
        due("!<a", INDEX, 3, 0);
        due("!<b>", FORM, 2, 0);
        due("?", FORM, 0, 0);
        due("!<a", INDEX, 3, 0);
        due("!<a ", FORM, 3, 0);
        due(START, 0, -1, 0);
    }

    private static void nameField() {
        due(START + Rows.heads("a/", "0", ""), 1, -1, 1);
        due(START + Rows.heads("abcdefg/", "0", ""), 1, -1, 1);
        due(START + Rows.heads("abcdefgh", "0", ""), FORM, 11, 0);
        due(START + Rows.heads("", "0", ""), FORM, 4, 0);
        due(START + Rows.heads("a b/", "0", ""), FORM, 5, 0);
        due(START + Rows.heads("abc", "0", ""), FORM, 7, 0);
        due(START + Rows.heads("ab\u007f/", "0", ""), FORM, 6, 0);
        due(START + Rows.heads("ab\u00ff/", "0", ""), FORM, 6, 0);
        due(START + Rows.heads("a/b/", "0", ""), FORM, 6, 0);
        due(START + Rows.heads("a//", "0", ""), FORM, 6, 0);
        due(START + Rows.heads("a/     x", "0", ""), FORM, 11, 0);
        due(START + Rows.heads("/", "0", ""), FORM, 5, 0);
        due(START + Rows.heads("/x", "0", ""), FORM, 5, 0);
        due(START + Rows.heads("/1x", "0", ""), FORM, 6, 0);
        due(START + Rows.heads("/1 2", "0", ""), FORM, 7, 0);
        due(START + Rows.heads("//x", "0", ""), FORM, 6, 0);
        due(START + Rows.heads("//     /", "0", ""), FORM, 11, 0);
        due(START + "a", INDEX, 5, 0);
        due(START + "a/   ", INDEX, 9, 0);
        due(START + "/", INDEX, 5, 0);
        due(START + "//", INDEX, 6, 0);
        due(START + "/1", INDEX, 6, 0);
    }

    private static void sizeField() {
        due(START + Rows.heads("a/", "", ""), FORM, 12, 0);
        due(START + Rows.heads("a/", " 1", "x\n"), FORM, 12, 0);
        due(START + Rows.heads("a/", "-1", ""), FORM, 12, 0);
        due(START + Rows.heads("a/", "1 1", "x\n"), FORM, 14, 0);
        due(START + Rows.heads("a/", "1x", "x\n"), FORM, 13, 0);
        due(START + Rows.heads("a/", "001", "x\n"), 1, -1, 1);
        due(START + Rows.heads("a/", "0060", Check.times("x", 60)), 1, -1, 1);
        due(START + Rows.heads("a/", "60", Check.times("x", 60)), 1, -1, 1);
        due(START + Rows.heads("a/", "61", Check.times("x", 61) + "\n"), FORM, 12, 0);
        due(START + Rows.heads("a/", "9999", ""), FORM, 12, 0);
        due(START + "a/      ", INDEX, 12, 0);
        due(START + "a/      1", INDEX, 13, 0);
        due(START + "a/      1  ", INDEX, 15, 0);
    }

    private static void headEnd() {
        due(START + "a/      0   ", INDEX, 16, 0);
        due(START + "a/      0   `", INDEX, 17, 0);
        due(START + "a/      0   '\n", FORM, 16, 0);
        due(START + "a/      0   `\r", FORM, 17, 0);
        due(START + "a/      12345`", FORM, 16, 0);
    }

    private static void contents() {
        due(START + Rows.heads("a/", "2", "x"), INDEX, 19, 0);
        due(START + Rows.heads("a/", "1", "x"), INDEX, 19, 0);
        due(START + Rows.heads("a/", "1", "xy"), FORM, 19, 0);
        due(START + Rows.heads("a/", "1", "x\n"), 1, -1, 1);
        due(START + Rows.heads("a/", "2", "\n\u00ff") + Rows.heads("b/", "0", ""), 2, -1, 2);
        due(START + Rows.heads("a/", "2", "xy") + Rows.heads("b/", "1", "x"), INDEX, 35, 1);
        SmallArchives x = Check.withRow(START + Rows.heads("a/", "3", "\0\u00ff/\n"));
        x.read(0);
        CHECK.dueText("12: its bytes", Check.bytesOf(x, 0), "\0\u00ff/");
        CHECK.dueText("12: its NAME", Check.nameOf(x, 0), "a");
        SmallArchives many = Check.withRow(START + Check.times(Rows.heads("a/", "0", ""), 20));
        CHECK.due("12: more ENTRIES than FILES may be", many.read(0), 20);
    }

    private static void table() {
        String names = "longname1/\nx/\n";
        due(START + Rows.heads("//", "14", names), 0, -1, 0);
        due(START + Rows.heads("//", "0", ""), 0, -1, 0);
        due(START + Rows.heads("//", "1", "x"), INDEX, 19, 0);
        due(START + Rows.heads("//", "1", "x\n"), 0, -1, 0);
        due(START + Rows.heads("//", "1", "xx"), FORM, 19, 0);
        due(START + Rows.heads("//", "3", "xx"), INDEX, 20, 0);
        due(START + Rows.heads("//", "300", Check.times("x", 300)), 0, -1, 0);
        due(START + Rows.heads("//", "301", Check.times("x", 302)), FORM, 12, 0);
        due(START + Rows.heads("//", "0", "") + Rows.heads("//", "0", ""), FORM, 18, 0);
        due(START + Rows.heads("a/", "0", "") + Rows.heads("//", "0", ""), FORM, 18, 1);
        due(START + Rows.heads("a/", "0", "") + Rows.heads("//", "999", ""), FORM, 18, 1);
        due(START + Rows.heads("a/", "0", "") + Rows.heads("//", "x", ""), FORM, 26, 1);
        SmallArchives x = Check.withRow(START + Rows.heads("//", "14", names)
                + Rows.heads("/11", "0", "") + Rows.heads("b/", "0", "")
                + Rows.heads("/0", "1", "q\n") + Rows.heads("/4", "0", ""));
        CHECK.dueRead("12: THE TABLE is no ENTRY", x, 0, 4, -1, 4);
        CHECK.dueText("12: the NAME at 11", Check.nameOf(x, 0), "x");
        CHECK.dueText("12: a short one", Check.nameOf(x, 1), "b");
        CHECK.dueText("12: the NAME at 0", Check.nameOf(x, 2), "longname1");
        CHECK.dueText("12: from the middle", Check.nameOf(x, 3), "name1");
        CHECK.due("15: where it begins", x.told(0, 2, 0), 32);
        x.read(2);
        x.cut(0);
        Check.putRow(x, START + Rows.heads("/0", "0", ""));
        CHECK.dueRead("12: a TABLE of an earlier read is none", x, 0, NULL, 4, 0);
    }

    /** A TABLE with these bytes and an ENTRY with this NAME FIELD, which begins at the place that is due. */
    private static void dueLong(String table, String field, int answer) {
        String pad = table.length() % 2 == 0 ? "" : "\n";
        int place = 4 + 14 + table.length() + pad.length();
        String row = START + Rows.heads("//", "" + table.length(), table + pad) + Rows.heads(field, "0", "");
        due(row, answer, answer < 0 ? place : -1, answer < 0 ? 0 : answer);
    }

    private static void longNames() {
        due(START + Rows.heads("/0", "0", ""), NULL, 4, 0);
        due(START + Rows.heads("a/", "0", "") + Rows.heads("/3", "0", ""), NULL, 18, 1);
        dueLong("", "/0", INDEX);
        dueLong("abc/\n", "/0", 1);
        dueLong("abc/\n", "/0000002", 1);
        dueLong("abc/\n", "/3", FORM);
        dueLong("abc/\n", "/4", FORM);
        dueLong("abc/\n", "/5", INDEX);
        dueLong("abc/\n", "/6", INDEX);
        dueLong("abc/\n", "/9999999", INDEX);
        dueLong("abc/", "/0", INDEX);
        dueLong("abc", "/0", INDEX);
        dueLong("abc/x", "/0", FORM);
        dueLong("a c/\n", "/0", FORM);
        dueLong("a\nc/\n", "/0", FORM);
        dueLong("ab\u0080", "/0", FORM);
        dueLong("/\n", "/0", FORM);
        dueLong("/", "/0", FORM);
        dueLong(Check.times("n", 20) + "/\n", "/0", 1);
        dueLong(Check.times("n", 21) + "/\n", "/0", FORM);
        dueLong(Check.times("n", 21) + "/\n", "/1", 1);
        dueLong(Check.times("n", 20), "/0", INDEX);
        dueLong(Check.times("n", 20) + "/", "/0", INDEX);
        dueLong(Check.times("n", 20) + " ", "/0", FORM);
        dueLong(Check.times("n", 21), "/0", FORM);
        dueLong("TRAILER!/\n", "/0", 1);
    }

    private static void order() {
        due(START + Rows.heads("/0", "61", ""), NULL, 4, 0);
        due(START + Rows.heads("/0", "x", ""), FORM, 12, 0);
        due(START + "/0      0   `x", FORM, 17, 0);
        due(START + "/0      0   `", INDEX, 17, 0);
        due(START + Rows.heads("//", "2", "ab") + Rows.heads("/2", "61", ""), INDEX, 20, 0);
        due(START + Rows.heads("//", "4", "ab/\n") + Rows.heads("/0", "61", ""), FORM, 30, 0);
        due(START + Rows.heads("//", "4", "ab/\n") + Rows.heads("/0", "3", "x"), INDEX, 37, 0);
        due(START + Rows.heads("a/", "0", "") + Rows.heads("//", "0", "").substring(0, 13), INDEX, 31, 1);
    }

    private static void cutAnywhere() {
        String row = START + Rows.heads("//", "11", "longname1/\n\n")
                + Rows.heads("/0", "3", "abc\n") + Rows.heads("b/", "2", "xy");
        SmallArchives x = Check.withRow(row);
        int second = 4 + 14 + 12;
        int third = second + 18;
        for (int n = row.length() - 1; n >= 0; n--) {
            x.cut(n);
            boolean whole = n == 4 || n == second || n == third;
            int entries = n >= third ? 1 : 0;
            CHECK.dueRead("12: cut(" + n + ")", x, 0, whole ? entries : INDEX, whole ? -1 : n, entries);
        }
    }
}
