/** Promise 7: write, byte for byte in each FORM. */
public final class WriteTest {
    private static final Check CHECK = new Check("write");

    public static void main(String[] args) {
        answers();
        heads();
        headsTable();
        numbers();
        numbersOfGroups();
        lines();
        linesOfEveryLength();
        longest();
        CHECK.end();
    }

    private static void dueRow(String what, SmallArchives x, int form, String row) {
        CHECK.due("7: " + what + ": write(" + form + ")", x.write(form), row.length());
        CHECK.dueText("7: " + what, Check.rowOf(x), row);
    }

    private static void answers() {
        SmallArchives x = Check.withRow("kept");
        int[] bad = {Integer.MIN_VALUE, -1, 3, Integer.MAX_VALUE};
        for (int form : bad) {
            CHECK.due("7: write(" + form + ")", x.write(form), SmallArchives.OUTSIDE);
        }
        x.file();
        CHECK.due("7: OUTSIDE ahead of NO", x.write(3), SmallArchives.OUTSIDE);
        for (int form = 0; form < 3; form++) {
            CHECK.due("7: the last one has no NAME", x.write(form), SmallArchives.NO);
        }
        for (char c : "TRAILER".toCharArray()) {
            x.name(c);
        }
        x.name('!');
        for (int form = 0; form < 3; form++) {
            CHECK.due("7: TRAILER!", x.write(form), SmallArchives.NO);
        }
        Check.add(x, "b", "");
        CHECK.due("7: TRAILER! that is not the last", x.write(0), SmallArchives.NO);
        CHECK.dueText("7: THE ROW stays", Check.rowOf(x), "kept");
        SmallArchives y = new SmallArchives();
        Check.add(y, "TRAILER", "");
        Check.add(y, "TRAILER!!", "");
        Check.add(y, "trailer!", "");
        Check.add(y, "XRAILER!", "");
        Check.add(y, "TRAILER?", "");
        CHECK.due("7: others like TRAILER!", y.write(2), 5 * 13 + 7 + 9 + 8 + 8 + 8);
        y.clear();
        CHECK.due("7: no FILES", y.write(2), 0);
        CHECK.due("7: THE ROW is empty then", y.row(SmallArchives.NONE), 0);
    }

    private static void heads() {
        SmallArchives x = new SmallArchives();
        dueRow("no FILES", x, 0, "!<a>");
        Check.add(x, "a", "xyz");
        dueRow("odd CONTENTS", x, 0, "!<a>a/      3   `\nxyz\n");
        Check.add(x, "seven77", "0123456789");
        dueRow("a NAME of 7", x, 0, "!<a>a/      3   `\nxyz\nseven77/10  `\n0123456789");
        Check.addLink(x, "l", 0);
        Check.add(x, "e", "");
        dueRow("a LINK", x, 0, "!<a>a/      3   `\nxyz\nseven77/10  `\n0123456789l/      3   `\nxyz\n"
                + "e/      0   `\n");
    }

    private static void headsTable() {
        SmallArchives x = new SmallArchives();
        Check.add(x, "eight888", "1");
        dueRow("a NAME of 8", x, 0, "!<a>//      10  `\neight888/\n/0      1   `\n1\n");
        Check.add(x, "s", "");
        Check.add(x, "nine99999", "");
        dueRow("two long NAMES and an odd TABLE", x, 0, "!<a>//      21  `\neight888/\nnine99999/\n\n"
                + "/0      1   `\n1\ns/      0   `\n/10     0   `\n");
        Check.add(x, "eight888", "");
        dueRow("a NAME twice", x, 0, "!<a>//      31  `\neight888/\nnine99999/\neight888/\n\n"
                + "/0      1   `\n1\ns/      0   `\n/10     0   `\n/21     0   `\n");
    }

    private static String trailer() {
        return "\u00c7q\0\0\1\11\0\0\0\0TRAILER!\0\0";
    }

    private static void numbers() {
        SmallArchives x = new SmallArchives();
        dueRow("no FILES", x, 1, trailer());
        Check.add(x, "a", "\1\2\u00ff");
        dueRow("odd CONTENTS", x, 1, "\u00c7q\0\1\1\2\0\3\1\2a\0\1\2\u00ff\0" + trailer());
        Check.add(x, "bb", "");
        dueRow("an even NAME", x, 1, "\u00c7q\0\1\1\2\0\3\1\2a\0\1\2\u00ff\0\u00c7q\0\2\1\3\0\0\0\0bb\0\0" + trailer());
        x.clear();
        Check.add(x, "f", Check.times("\u00ff", 60));
        dueRow("the highest sum", x, 1, "\u00c7q\0\1\1\2\0\74\73\304f\0" + Check.times("\u00ff", 60) + trailer());
    }

    private static void numbersOfGroups() {
        SmallArchives x = new SmallArchives();
        Check.add(x, "a", "A");
        Check.add(x, "b", "BB");
        Check.addLink(x, "c", 1);
        Check.add(x, "d", "");
        Check.addLink(x, "e", 0);
        Check.addLink(x, "f", 1);
        Check.add(x, "g", "G");
        dueRow("LINKS", x, 1, "\u00c7q\0\1\2\2\0\0\0\0a\0"
                + "\u00c7q\0\2\3\2\0\0\0\0b\0"
                + "\u00c7q\0\2\3\2\0\0\0\0c\0"
                + "\u00c7q\0\3\1\2\0\0\0\0d\0"
                + "\u00c7q\0\1\2\2\0\1\0Ae\0A\0"
                + "\u00c7q\0\2\3\2\0\2\0\u0084f\0BB"
                + "\u00c7q\0\4\1\2\0\1\0Gg\0G\0"
                + trailer());
    }

    private static void lines() {
        SmallArchives x = new SmallArchives();
        dueRow("no FILES", x, 2, "");
        Check.add(x, "a", "abc");
        dueRow("three bytes", x, 2, "begin a\n#86)C\n`\nend\n");
        Check.add(x, "b", "");
        Check.addLink(x, "c", 0);
        dueRow("none, and a LINK", x, 2, "begin a\n#86)C\n`\nend\nbegin b\n`\nend\nbegin c\n#86)C\n`\nend\n");
        x.clear();
        Check.add(x, "z", "\0\0\0\u00ff");
        dueRow("0s at the end", x, 2, "begin z\n$````_P``\n`\nend\n");
        x.clear();
        Check.add(x, "z", "\u00ff\u00ff");
        dueRow("one 0 at the end", x, 2, "begin z\n\"__\\`\n`\nend\n");
    }

    private static void linesOfEveryLength() {
        for (int n = 0; n <= 60; n++) {
            SmallArchives x = new SmallArchives();
            Check.add(x, "n", Check.times("\0", n));
            StringBuilder row = new StringBuilder("begin n\n");
            for (int left = n; left > 0; left -= 15) {
                int count = Math.min(15, left);
                row.append((char) (32 + count)).append("````".repeat((count + 2) / 3)).append('\n');
            }
            dueRow(n + " bytes", x, 2, row.append("`\nend\n").toString());
        }
    }

    private static void longest() {
        SmallArchives x = new SmallArchives();
        Check.addMost(x);
        CHECK.due("7: the longest of FORM 0", x.write(0), 4 + 14 + 12 * 22 + 12 * 74);
        CHECK.due("7: read(0)", x.read(0), 12);
        CHECK.due("7: same()", x.same(), 1);
        CHECK.due("7: the longest of FORM 1 with LINKS", x.write(1), 12 * 32 + 60 + 20);
        CHECK.due("7: read(1)", x.read(1), 12);
        CHECK.due("7: same()", x.same(), 1);
        CHECK.due("7: the longest of FORM 2", x.write(2), 12 * 121);
        CHECK.due("7: read(2)", x.read(2), 12);
        CHECK.due("7: same()", x.same(), 1);
    }
}
