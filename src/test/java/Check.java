import java.util.ArrayList;
import java.util.List;

/** What the tests share: answers compared with those that are due, and short ways to fill an object. */
final class Check {
    private final String title;
    private String sentence = "";
    private int sentences;
    private int wrong;
    private int asked;

    Check(String title) {
        this.title = title;
    }

    /** The document's words that the answers from here on are held to. */
    void sentence(String words) {
        sentence = " [" + words + "]";
        sentences++;
    }

    void due(String call, long got, long want) {
        asked++;
        if (got != want) {
            wrong++;
            System.out.println(title + sentence + ": " + call + " answered " + got + ", due is " + want);
        }
    }

    void dueText(String call, String got, String want) {
        asked++;
        if (!got.equals(want)) {
            wrong++;
            System.out.println(title + sentence + ": " + call + " answered\n  " + shown(got) + "\ndue is\n  "
                    + shown(want));
        }
    }

    /** A read: its answer, its place, and how many ENTRIES stay. */
    void dueRead(String what, SmallArchives x, int form, int answer, int place, int entries) {
        due(what + ": read(" + form + ")", x.read(form), answer);
        due(what + ": place()", x.place(), place);
        due(what + ": entries()", x.entries(), entries);
    }

    /** A read of a new object with this ROW. */
    void dueReadOf(String row, int form, int answer, int place, int entries) {
        dueRead("12: " + shown(row), withRow(row), form, answer, place, entries);
    }

    void dueThrow(String call, SmallArchives x, int i, int k) {
        boolean thrown = false;
        try {
            x.got(i, k);
        } catch (IndexOutOfBoundsException e) {
            thrown = e.getClass() == IndexOutOfBoundsException.class;
        }
        due(call + " throws IndexOutOfBoundsException", thrown ? 1 : 0, 1);
    }

    void end() {
        String held = sentences == 0 ? "" : sentences + " sentences, ";
        System.out.println(title + ": " + held + asked + " answers, " + wrong + " not as due");
        if (wrong != 0) {
            System.exit(1);
        }
    }

    /** A FILE with this NAME and these CONTENTS, a character for a byte. */
    static void add(SmallArchives x, String name, String contents) {
        x.file();
        for (char c : name.toCharArray()) {
            x.name(c);
        }
        for (char v : contents.toCharArray()) {
            x.data(v);
        }
    }

    static void addLink(SmallArchives x, String name, int to) {
        add(x, name, "");
        x.link(to);
    }

    /** 12 FILES as long as they may be: 323 calls, of which write(2) makes the longest ROW, 1452 bytes. */
    static void addMost(SmallArchives x) {
        add(x, times("n", 20), times("d", 60));
        for (int i = 1; i < 12; i++) {
            addLink(x, times("m", 20), 0);
        }
    }

    /** A new object with this ROW. */
    static SmallArchives withRow(String bytes) {
        SmallArchives x = new SmallArchives();
        putRow(x, bytes);
        return x;
    }

    static void putRow(SmallArchives x, String bytes) {
        x.cut(0);
        for (char v : bytes.toCharArray()) {
            x.put(v);
        }
    }

    static String rowOf(SmallArchives x) {
        StringBuilder text = new StringBuilder();
        int size = x.row(SmallArchives.NONE);
        for (int i = 0; i < size; i++) {
            text.append((char) x.row(i));
        }
        return text.toString();
    }

    static String nameOf(SmallArchives x, int i) {
        StringBuilder text = new StringBuilder();
        int size = x.told(i, 0, 0);
        for (int k = 0; k < size; k++) {
            text.append((char) x.told(i, 4, k));
        }
        return text.toString();
    }

    static String bytesOf(SmallArchives x, int i) {
        StringBuilder text = new StringBuilder();
        int size = x.told(i, 1, 0);
        for (int k = 0; k < size; k++) {
            text.append((char) x.got(i, k));
        }
        return text.toString();
    }

    /** Bytes that are no plain signs as numbers, so that a row can be told in one line. */
    private static String shown(String bytes) {
        StringBuilder text = new StringBuilder();
        for (char c : bytes.toCharArray()) {
            text.append(c >= 32 && c < 127 ? "" + c : "<" + (int) c + ">");
        }
        return text.toString();
    }

    /** Texts behind one another as a list; for tables of cases. */
    static List<String> list(String... texts) {
        List<String> all = new ArrayList<>();
        for (String text : texts) {
            all.add(text);
        }
        return all;
    }

    static String times(String text, int n) {
        return text.repeat(n);
    }
}
