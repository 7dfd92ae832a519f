/** The example of README.md, call for call, and its table of KINDS. */
public final class UsageTest {
    private static final Check CHECK = new Check("usage");

    public static void main(String[] args) {
        example();
        kinds();
        CHECK.end();
    }

    private static void example() {
        SmallArchives x = new SmallArchives();
        CHECK.due("file()", x.file(), 0);
        CHECK.due("name('a')", x.name('a'), 1);
        CHECK.due("data(1)", x.data(1), 1);
        CHECK.due("data(255)", x.data(255), 2);
        CHECK.due("file()", x.file(), 1);
        CHECK.due("name('b')", x.name('b'), 1);
        CHECK.due("link(0)", x.link(0), 1);
        CHECK.due("write(1)", x.write(1), 46);
        CHECK.due("read(1)", x.read(1), 2);
        CHECK.due("told(1, 0, 0)", x.told(1, 0, 0), 1);
        CHECK.due("told(1, 4, 0)", x.told(1, 4, 0), 'b');
        CHECK.due("got(1, 1)", x.got(1, 1), 255);
        CHECK.due("same()", x.same(), 1);
        CHECK.due("cut(30)", x.cut(30), 16);
        CHECK.due("read(1)", x.read(1), -22);
        CHECK.due("place()", x.place(), 30);
        CHECK.due("entries()", x.entries(), 2);
    }

    private static void kinds() {
        dueKind(0, "!<a>/0      0   `\n", -21);
        dueKind(0, "!<a", -22);
        dueKind(1, "\u00c7q\0\1\1\2\u00ff\u00ff\0\0a\0", -23);
        dueKind(2, "Begin a\n`\nend\n", -24);
        dueKind(1, "\u00c7q\0\1\1\2\0\0\0\1a\0", -25);
        dueKind(1, "\u00c7q\0\1\2\2\0\0\0\0a\0\u00c7q\0\0\1\11\0\0\0\0TRAILER!\0\0", -26);
    }

    private static void dueKind(int form, String row, int answer) {
        CHECK.due("read(" + form + ")", Check.withRow(row).read(form), answer);
    }
}
