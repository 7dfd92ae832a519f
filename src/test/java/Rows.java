/** Rows written by hand, ENTRY by ENTRY, as part 2 of the document tells them; wrong ones, too. */
final class Rows {
    /** What FORM 0 begins with. */
    static final String START = "!<a>";
    /** What FORM 1 ends with. */
    static final String TRAILER = numbers(0, 1, "TRAILER!", "");
    /** A line of FORM 2 with 15 bytes 0. */
    static final String FULL_LINE = "/" + "````".repeat(5) + "\n";

    private Rows() {
    }

    /** An ENTRY of FORM 0: these FIELDS, END, and whatever is to stand behind it. */
    static String heads(String name, String size, String rest) {
        return padded(name, 8) + padded(size, 4) + "`\n" + rest;
    }

    private static String padded(String text, int width) {
        return text + " ".repeat(width - text.length());
    }

    /** THE TABLE with these bytes. */
    static String table(String bytes) {
        return heads("//", "" + bytes.length(), bytes + "\n".repeat(bytes.length() % 2));
    }

    /** The ten bytes of a head of FORM 1. */
    static String numbersHead(int number, int links, int nameSize, int size, int sum) {
        return "\u00c7q" + two(number) + (char) links + (char) nameSize + two(size) + two(sum);
    }

    private static String two(int v) {
        return "" + (char) (v >> 8 & 255) + (char) (v & 255);
    }

    /** An ENTRY of FORM 1 in which nothing is wrong. */
    static String numbers(int number, int links, String name, String contents) {
        int sum = 0;
        for (char c : contents.toCharArray()) {
            sum += c;
        }
        return numbersHead(number, links, name.length() + 1, contents.length(), sum) + name + "\0"
                + "\0".repeat((name.length() + 1) % 2) + contents + "\0".repeat(contents.length() % 2);
    }

    /** An ENTRY of FORM 2 with these lines of signs. */
    static String lines(String name, String signs) {
        return "begin " + name + "\n" + signs + "`\nend\n";
    }
}
