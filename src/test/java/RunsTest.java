import java.util.Random;

/** All promises: long runs of calls, ordinary and wrong ones, each answer held against the Model's. */
public final class RunsTest {
    private static final int RUNS = 400;
    private static final int CALLS = 512;
    private static final int[] EDGES = {Integer.MIN_VALUE, -4, -3, -2, -1, 0, 1, 2, 3, 9, 10, 11, 12, 13, 15, 16, 20,
        21, 32, 33, 47, 48, 57, 60, 61, 96, 97, 113, 126, 127, 128, 199, 200, 254, 255, 256, 300, 1499, 1500,
        Integer.MAX_VALUE};
    private static final String[] PARTS = {"!<a>", "a/      0   `\n", "b/      1   `\nx\n", "/0      0   `\n",
        "//      12  `\nlong.name./\n", "//      6   `\nab/c/\n", "/3      2   `\nxy", "begin ",
        "begin q\n", "`\nend\n", "#86)C\n", "/" + "1".repeat(20) + "\n",
        "\u00c7q\0\1\1\2\0\0\0\0a\0", "\u00c7q\0\1\2\2\0\1\0xa\0x\0", "\u00c7q\0\1\3\2\0\0\0\0b\0",
        "\u00c7q\0\0\1\11\0\0\0\0TRAILER!\0\0", "\u00c7q\0\1\2\11\0\1\0xTRAILER!\0\0x\0", "\0\0"};

    private final Check check;
    private final Random random;
    private final SmallArchives x = new SmallArchives();
    private final Model model = new Model();
    private int left = CALLS;
    private final long seed;

    private RunsTest(Check check, long seed) {
        this.check = check;
        this.seed = seed;
        this.random = new Random(seed);
    }

    public static void main(String[] args) {
        Check check = new Check("runs");
        int runs = args.length > 0 ? Integer.parseInt(args[0]) : RUNS;
        for (int seed = 1; seed <= runs; seed++) {
            new RunsTest(check, seed).run();
        }
        check.end();
    }

    private void run() {
        while (left > 0) {
            switch (random.nextInt(12)) {
                case 0: case 1: case 2: fillFile(); break;
                case 3: case 4: case 5: writeAndChange(); break;
                case 6: putPart(); break;
                case 7: ask(); break;
                case 8: case 9: poke(); break;
                case 10: read(random.nextInt(3)); break;
                default: wild(); break;
            }
        }
    }

    private void due(String text, int got, int want) {
        left--;
        check.due(got == want ? text : "seed " + seed + ": " + text, got, want);
    }

    private int pick() {
        return random.nextInt(3) == 0 ? EDGES[random.nextInt(EDGES.length)] : random.nextInt(300) - 20;
    }

    private void fillFile() {
        due("file()", x.file(), model.file());
        int[] lengths = {1, 2, 6, 7, 8, 9, 20};
        int n = lengths[random.nextInt(lengths.length)];
        for (int k = 0; k < n; k++) {
            int c = 33 + random.nextInt(94);
            due("name(" + c + ")", x.name(c), model.name(c));
        }
        if (random.nextInt(3) == 0) {
            int to = random.nextInt(4);
            due("link(" + to + ")", x.link(to), model.link(to));
        } else {
            int size = random.nextInt(4) == 0 ? random.nextInt(62) : random.nextInt(6);
            for (int k = 0; k < size; k++) {
                int v = random.nextInt(256);
                due("data(" + v + ")", x.data(v), model.data(v));
            }
        }
    }

    private void writeAndChange() {
        int form = random.nextInt(3);
        int size = model.write(form);
        due("write(" + form + ")", x.write(form), size);
        for (int i = 0; i < size; i++) {
            check.due("row(" + i + ")", x.row(i), model.row(i));
        }
        read(form);
        for (int turn = random.nextInt(5); turn > 0 && size > 0; turn--) {
            int i = random.nextInt(size);
            int v = random.nextBoolean() ? random.nextInt(256) : near(model.row(i));
            int old = model.row(i);
            due("poke(" + i + ", " + v + ")", x.poke(i, v), model.poke(i, v));
            read(form);
            if (random.nextInt(3) > 0) {
                due("poke back", x.poke(i, old), model.poke(i, old));
            }
        }
        if (random.nextInt(3) == 0 && size > 0) {
            int n = random.nextInt(size + 1);
            due("cut(" + n + ")", x.cut(n), model.cut(n));
            read(form);
        }
    }

    private int near(int v) {
        return v + random.nextInt(5) - 2 & 255;
    }

    private void putPart() {
        if (random.nextInt(3) == 0) {
            due("cut(0)", x.cut(0), model.cut(0));
        }
        for (int turn = 1 + random.nextInt(4); turn > 0; turn--) {
            for (char v : PARTS[random.nextInt(PARTS.length)].toCharArray()) {
                due("put(" + (int) v + ")", x.put(v), model.put(v));
            }
        }
        for (int form = 0; form < 3; form++) {
            read(form);
        }
    }

    private void poke() {
        int size = model.row(-1);
        if (size > 0) {
            int i = random.nextInt(size);
            int v = near(model.row(i));
            due("poke(" + i + ", " + v + ")", x.poke(i, v), model.poke(i, v));
        }
    }

    private void read(int form) {
        due("read(" + form + ")", x.read(form), model.read(form));
        due("place() of read(" + form + ")", x.place(), model.place());
        due("entries()", x.entries(), model.entries());
        due("same()", x.same(), model.same());
        // These calls are not counted against the run: they change nothing.
        for (int i = 0; i < model.entries(); i++) {
            for (int what = 0; what < 4; what++) {
                check.due("told(" + i + ", " + what + ")", x.told(i, what, 0), model.told(i, what, 0));
            }
            for (int k = 0; k <= 20; k++) {
                check.due("told(" + i + ", 4, " + k + ")", x.told(i, 4, k), model.told(i, 4, k));
            }
            for (int k = 0; k <= model.told(i, 1, 0); k++) {
                check.due("got(" + i + ", " + k + ")", got(i, k), model.got(i, k));
            }
        }
    }

    private int got(int i, int k) {
        try {
            return x.got(i, k);
        } catch (IndexOutOfBoundsException e) {
            return e.getClass() == IndexOutOfBoundsException.class ? -1 : -99;
        }
    }

    private void ask() {
        int i = pick();
        int what = random.nextInt(7) - 1;
        int k = pick();
        due("told", x.told(i, what, k), model.told(i, what, k));
        due("got", got(i, k), model.got(i, k));
        due("row", x.row(i), model.row(i));
        due("place", x.place(), model.place());
        due("entries", x.entries(), model.entries());
        due("same", x.same(), model.same());
    }

    private void wild() {
        int a = pick();
        int b = pick();
        switch (random.nextInt(9)) {
            case 0: due("name", x.name(a), model.name(a)); break;
            case 1: due("data", x.data(a), model.data(a)); break;
            case 2: due("link", x.link(a), model.link(a)); break;
            case 3: due("write", x.write(a), model.write(a)); break;
            case 4: due("put", x.put(a), model.put(a)); break;
            case 5: due("poke", x.poke(a, b), model.poke(a, b)); break;
            case 6: due("cut", x.cut(a), model.cut(a)); break;
            case 7: due("read", x.read(a), model.read(a)); break;
            default:
                if (random.nextInt(4) == 0) {
                    due("clear", x.clear(), model.clear());
                }
                left--;
                break;
        }
    }
}
