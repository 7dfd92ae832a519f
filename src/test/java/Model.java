import java.util.ArrayList;
import java.util.List;
import java.util.regex.Matcher;
import java.util.regex.Pattern;

/**
 * The document once more, written for the eye and not for the room: texts of characters 0 to 255, and a
 * FINDING is thrown. The class is held against it in long runs of calls.
 */
final class Model {
    private static final class Thing {
        String name = "";
        String own = "";
        Thing target;
        int begin;
        int number;
        int links = 1;
    }

    private static final class Finding extends Exception {
        private static final long serialVersionUID = 1L;
        final int kind;
        final int place;

        Finding(int kind, int place) {
            this.kind = kind;
            this.place = place;
        }
    }

    private List<Thing> files = new ArrayList<>();
    private List<Thing> entries = new ArrayList<>();
    private String row = "";
    private int place = -1;
    private int at;
    private String table;

    private static boolean nameByte(int c) {
        return c > 32 && c < 127 && c != '/';
    }

    private static boolean isByte(int v) {
        return (v & 255) == v;
    }

    private Thing lastFile() {
        return files.isEmpty() ? null : files.get(files.size() - 1);
    }

    int file() {
        if (lastFile() != null && lastFile().name.isEmpty()) {
            return -3;
        }
        if (files.size() == 12) {
            return -4;
        }
        files.add(new Thing());
        return files.size() - 1;
    }

    int name(int c) {
        Thing f = lastFile();
        if (f == null || !nameByte(c)) {
            return -2;
        }
        if (f.name.length() == 20) {
            return -4;
        }
        f.name += (char) c;
        return f.name.length();
    }

    int data(int v) {
        Thing f = lastFile();
        if (f == null || !isByte(v)) {
            return -2;
        }
        if (f.target != null) {
            return -3;
        }
        if (f.own.length() == 60) {
            return -4;
        }
        f.own += (char) v;
        return f.own.length();
    }

    int link(int to) {
        if (to < 0 || to + 1L >= files.size()) {
            return -2;
        }
        Thing f = lastFile();
        Thing elder = files.get(to);
        if (elder.target != null || f.target != null || !f.own.isEmpty()) {
            return -3;
        }
        f.target = elder;
        return 1;
    }

    int clear() {
        int n = files.size();
        files = new ArrayList<>();
        return n;
    }

    int write(int form) {
        if (form < 0 || form > 2) {
            return -2;
        }
        for (Thing f : files) {
            if (f.name.isEmpty() || f.name.equals("TRAILER!")) {
                return -3;
            }
        }
        String text = form == 0 ? heads() : form == 1 ? numbers() : lines();
        if (text.length() > 1500) {
            return -4;
        }
        row = text;
        return row.length();
    }

    private static Thing root(Thing f) {
        return f.target == null ? f : f.target;
    }

    private String heads() {
        StringBuilder names = new StringBuilder();
        StringBuilder rest = new StringBuilder();
        for (Thing f : files) {
            String bytes = root(f).own;
            String field = f.name + "/";
            if (f.name.length() > 7) {
                field = "/" + names.length();
                names.append(f.name).append("/\n");
            }
            rest.append(String.format("%-8s%-4d`\n", field, bytes.length())).append(bytes);
            rest.append(bytes.length() % 2 == 1 ? "\n" : "");
        }
        if (names.length() == 0) {
            return "!<a>" + rest;
        }
        int n = names.length();
        return "!<a>" + String.format("%-8s%-4d`\n", "//", n) + names + (n % 2 == 1 ? "\n" : "") + rest;
    }

    private static String two(int v) {
        return "" + (char) (v / 256) + (char) (v % 256);
    }

    private static String entry(int number, int links, String name, String bytes) {
        String text = "\u00c7q" + two(number) + (char) links + (char) (name.length() + 1) + two(bytes.length())
                + two(bytes.chars().sum() % 65536) + name + "\0";
        text += text.length() % 2 == 1 ? "\0" : "";
        return text + bytes + (bytes.length() % 2 == 1 ? "\0" : "");
    }

    private String numbers() {
        List<Thing> roots = new ArrayList<>();
        StringBuilder text = new StringBuilder();
        for (Thing f : files) {
            if (!roots.contains(root(f))) {
                roots.add(root(f));
            }
            int links = 0;
            Thing last = f;
            for (Thing g : files) {
                if (root(g) == root(f)) {
                    links++;
                    last = g;
                }
            }
            text.append(entry(roots.indexOf(root(f)) + 1, links, f.name, last == f ? root(f).own : ""));
        }
        return text + entry(0, 1, "TRAILER!", "");
    }

    private static char sign(int v) {
        return v == 0 ? '`' : (char) (32 + v);
    }

    private String lines() {
        StringBuilder text = new StringBuilder();
        for (Thing f : files) {
            text.append("begin ").append(f.name).append('\n');
            String left = root(f).own;
            while (!left.isEmpty()) {
                String line = left.substring(0, Math.min(15, left.length()));
                left = left.substring(line.length());
                text.append(sign(line.length()));
                StringBuilder bits = new StringBuilder();
                for (char c : line.toCharArray()) {
                    bits.append(Integer.toBinaryString(256 + c).substring(1));
                }
                while (bits.length() % 24 != 0) {
                    bits.append('0');
                }
                for (int i = 0; i < bits.length(); i += 6) {
                    text.append(sign(Integer.parseInt(bits.substring(i, i + 6), 2)));
                }
                text.append('\n');
            }
            text.append("`\nend\n");
        }
        return text.toString();
    }

    int put(int v) {
        if (!isByte(v)) {
            return -2;
        }
        if (row.length() == 1500) {
            return -4;
        }
        row += (char) v;
        return row.length();
    }

    int row(int i) {
        return i == -1 ? row.length() : i < 0 || i >= row.length() ? -2 : row.charAt(i);
    }

    int poke(int i, int v) {
        if (i < 0 || i >= row.length() || !isByte(v)) {
            return -2;
        }
        int old = row.charAt(i);
        row = row.substring(0, i) + (char) v + row.substring(i + 1);
        return old;
    }

    int cut(int n) {
        if (n < 0 || n > row.length()) {
            return -2;
        }
        int went = row.length() - n;
        row = row.substring(0, n);
        return went;
    }

    int read(int form) {
        if (form < 0 || form > 2) {
            return -2;
        }
        entries = new ArrayList<>();
        place = -1;
        at = 0;
        table = null;
        try {
            if (form == 0) {
                readHeads();
            } else if (form == 1) {
                readNumbers();
            } else {
                while (at < row.length()) {
                    entries.add(readLines());
                }
            }
        } catch (Finding f) {
            place = f.place;
            return -20 - f.kind;
        }
        return entries.size();
    }

    private char next() throws Finding {
        if (at >= row.length()) {
            throw new Finding(2, row.length());
        }
        return row.charAt(at++);
    }

    private void want(String text) throws Finding {
        for (char c : text.toCharArray()) {
            if (next() != c) {
                throw new Finding(4, at - 1);
            }
        }
    }

    private String take(int n) throws Finding {
        StringBuilder text = new StringBuilder();
        while (text.length() < n) {
            text.append(next());
        }
        return text.toString();
    }

    /** A field of which every beginning must be one of the expression's beginnings; wrong bytes as they come. */
    private String field(int width, String... expressions) throws Finding {
        String text = "";
        while (text.length() < width) {
            text += next();
            boolean may = false;
            for (String expression : expressions) {
                Matcher m = Pattern.compile(expression).matcher(text);
                may |= m.matches() || m.hitEnd();
            }
            if (!may) {
                throw new Finding(4, at - 1);
            }
        }
        return text;
    }

    private void readHeads() throws Finding {
        want("!<a>");
        while (at < row.length()) {
            int begin = at;
            String name = field(8, "[!-.0-~]{1,7}/ *", "/[0-9]+ *", "// *");
            if (!name.trim().endsWith("/") && name.charAt(0) != '/') {
                throw new Finding(4, at - 1);
            }
            int size = Integer.parseInt(field(4, "[0-9]+ *").trim());
            want("`\n");
            boolean isTable = name.startsWith("//");
            if (isTable && begin != 4) {
                throw new Finding(4, begin);
            }
            Thing e = new Thing();
            e.begin = begin;
            if (!isTable) {
                e.name = name.charAt(0) == '/' ? longName(Integer.parseInt(name.substring(1).trim()), begin)
                        : name.substring(0, name.indexOf('/'));
            }
            if (size > (isTable ? 300 : 60)) {
                throw new Finding(4, begin + 8);
            }
            e.own = take(size);
            want(size % 2 == 1 ? "\n" : "");
            if (isTable) {
                table = e.own;
            } else {
                entries.add(e);
            }
        }
    }

    private String longName(int from, int begin) throws Finding {
        if (table == null) {
            throw new Finding(1, begin);
        }
        String text = "";
        for (int q = from;; q++) {
            if (q >= table.length()) {
                throw new Finding(2, begin);
            }
            char c = table.charAt(q);
            if (c == '/' && !text.isEmpty()) {
                if (q + 1 == table.length()) {
                    throw new Finding(2, begin);
                }
                if (table.charAt(q + 1) == '\n') {
                    return text;
                }
            }
            if (!nameByte(c) || text.length() == 20) {
                throw new Finding(4, begin);
            }
            text += c;
        }
    }

    private void readNumbers() throws Finding {
        while (true) {
            Thing e = new Thing();
            e.begin = at;
            want("\u00c7q");
            String head = take(8);
            e.number = head.charAt(0) * 256 + head.charAt(1);
            e.links = head.charAt(2);
            int nameSize = head.charAt(3) < 128 ? head.charAt(3) : head.charAt(3) - 256;
            int size = head.charAt(4) * 256 + head.charAt(5);
            size = size < 32768 ? size : size - 65536;
            check(e.links == 0, 4, e.begin + 4);
            check(nameSize < 0, 3, e.begin + 5);
            check(size < 0, 3, e.begin + 6);
            check(nameSize < 2 || nameSize > 21, 4, e.begin + 5);
            check(size > 60, 4, e.begin + 6);
            while (e.name.length() < nameSize - 1) {
                char c = next();
                check(!nameByte(c), 4, at - 1);
                e.name += c;
            }
            want(nameSize % 2 == 1 ? "\0\0" : "\0");
            e.own = take(size);
            check(e.own.chars().sum() != head.charAt(6) * 256 + head.charAt(7), 5, e.begin + 8);
            want(size % 2 == 1 ? "\0" : "");
            if (e.name.equals("TRAILER!")) {
                break;
            }
            entries.add(e);
        }
        want("\0".repeat(row.length() - at));
        for (Thing e : entries) {
            long alike = entries.stream().filter(f -> f.number == e.number && f.links == e.links).count();
            check(e.links > 1 && alike != e.links, 6, e.begin);
        }
    }

    private static void check(boolean wrong, int kind, int place) throws Finding {
        if (wrong) {
            throw new Finding(kind, place);
        }
    }

    private int sign() throws Finding {
        char c = next();
        check(c < 33 || c > 96, 4, at - 1);
        return (c - 32) % 64;
    }

    private Thing readLines() throws Finding {
        Thing e = new Thing();
        e.begin = at;
        want("begin ");
        char c = next();
        while (c != '\n' || e.name.isEmpty()) {
            check(!nameByte(c) || e.name.length() == 20, 4, at - 1);
            e.name += c;
            c = next();
        }
        boolean shortLine = false;
        for (int count = sign(); count > 0; count = sign()) {
            check(count > 15 || shortLine || e.own.length() + count > 60, 4, at - 1);
            shortLine = count < 15;
            String bits = "";
            for (int i = 0; i < (count + 2) / 3 * 4; i++) {
                bits += Integer.toBinaryString(64 + sign()).substring(1);
            }
            for (int i = 0; i < count; i++) {
                e.own += (char) Integer.parseInt(bits.substring(8 * i, 8 * i + 8), 2);
            }
            want("\n");
        }
        want("\nend\n");
        return e;
    }

    int place() {
        return place;
    }

    int entries() {
        return entries.size();
    }

    private List<Thing> group(Thing e) {
        List<Thing> all = new ArrayList<>();
        for (Thing f : entries) {
            if (f == e || f.links > 1 && e.links > 1 && f.number == e.number) {
                all.add(f);
            }
        }
        return all;
    }

    private String bytes(int i) {
        List<Thing> group = group(entries.get(i));
        return group.get(group.size() - 1).own;
    }

    int told(int i, int what, int k) {
        if (i < 0 || i >= entries.size() || what < 0 || what > 4) {
            return -2;
        }
        Thing e = entries.get(i);
        int byteOfName = k < 0 || k >= e.name.length() ? -1 : e.name.charAt(k);
        int[] all = {e.name.length(), bytes(i).length(), e.begin, entries.indexOf(group(e).get(0)), byteOfName};
        return all[what];
    }

    /** NONE where got() throws. */
    int got(int i, int k) {
        if (i < 0 || i >= entries.size() || k < 0 || k >= bytes(i).length()) {
            return -1;
        }
        return bytes(i).charAt(k);
    }

    int same() {
        if (entries.size() != files.size()) {
            return 0;
        }
        for (int i = 0; i < files.size(); i++) {
            if (!entries.get(i).name.equals(files.get(i).name) || !bytes(i).equals(root(files.get(i)).own)) {
                return 0;
            }
        }
        return 1;
    }
}
