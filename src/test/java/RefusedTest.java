import java.util.ArrayList;
import java.util.List;

/**
 * "Calls answer, the first of these that fits: OUTSIDE .., NO .., FULL; then nothing changes." Two like objects are
 * made, one of them is asked what it must refuse, and both must answer alike from then on. Calls that only ask are
 * held to the same.
 */
public final class RefusedTest {
    private static final int CALLS = 512;
    private static final int OUTSIDE = SmallArchives.OUTSIDE, NO = SmallArchives.NO, FULL = SmallArchives.FULL;
    private static final Check CHECK = new Check("refused");
    private static final int[] NUMBERS = {Integer.MIN_VALUE, -3, -2, -1, 256, 1501, Integer.MAX_VALUE};

    public static void main(String[] args) {
        CHECK.sentence("Calls answer, the first of these that fits: OUTSIDE ..; then nothing changes");
        for (Run run : allRuns()) {
            dueOutside(run);
            dueAsking(run);
        }
        CHECK.sentence("Calls answer, the first of these that fits: .. NO (as told) ..; then nothing changes");
        dueNo();
        CHECK.sentence("Calls answer, the first of these that fits: .. FULL; then nothing changes");
        dueFull();
        CHECK.end();
    }

    /** What has been called so far on an object that is made anew for each question. */
    private static final class Run {
        final List<Call> calls = new ArrayList<>();

        Run then(String name, int... arguments) {
            calls.add(new Call(name, arguments));
            return this;
        }

        Run file(String name, String contents) {
            then("file");
            for (char c : name.toCharArray()) {
                then("name", c);
            }
            for (char v : contents.toCharArray()) {
                then("data", v);
            }
            return this;
        }

        Run row(String bytes) {
            for (char v : bytes.toCharArray()) {
                then("put", v);
            }
            return this;
        }

        SmallArchives made() {
            SmallArchives x = new SmallArchives();
            for (Call call : calls) {
                call.answer(x);
            }
            return x;
        }
    }

    private static Run nameless() {
        return new Run().file("first", "1").file("", "");
    }

    private static Run link() {
        return new Run().file("a", "AB").file("b", "").then("link", 0).then("write", 1).then("read", 1);
    }

    private static Run trailer() {
        return new Run().row("kept").file("a", "A").file("TRAILER!", "T");
    }

    private static Run twelve() {
        Run run = new Run();
        for (int i = 0; i < 12; i++) {
            run.file("n" + (char) ('a' + i), "d");
        }
        return run.then("write", 2).then("read", 2);
    }

    private static Run fullFile() {
        return new Run().file("n".repeat(20), "d".repeat(60)).then("write", 0).then("read", 0);
    }

    private static Run finding() {
        return new Run().file("a", "A").row(Rows.lines("a", "#86)C\n") + "begin b").then("read", 2);
    }

    private static Run fullRow() {
        Run run = new Run().file("n".repeat(20), "d".repeat(60));
        for (int i = 1; i < 12; i++) {
            run.file("m".repeat(20), "").then("link", 0);
        }
        return run.then("write", 2).row("z".repeat(48));
    }

    private static List<Run> allRuns() {
        List<Run> runs = new ArrayList<>();
        runs.add(new Run());
        runs.add(nameless());
        runs.add(link());
        runs.add(trailer());
        runs.add(twelve());
        runs.add(fullFile());
        runs.add(finding());
        runs.add(fullRow());
        return runs;
    }

    private static void dueOutside(Run run) {
        SmallArchives x = run.made();
        int size = x.row(SmallArchives.NONE);
        int files = x.clear();
        for (int n : NUMBERS) {
            dueRefused(run, OUTSIDE, "name", n);
            dueRefused(run, OUTSIDE, "data", n);
            dueRefused(run, OUTSIDE, "link", n);
            dueRefused(run, OUTSIDE, "write", n);
            dueRefused(run, OUTSIDE, "put", n);
            dueRefused(run, OUTSIDE, "poke", n < 0 ? n : size, 1);
            dueRefused(run, OUTSIDE, "poke", 0, n);
            dueRefused(run, OUTSIDE, "cut", n < 0 ? n : Math.max(n, size + 1));
            dueRefused(run, OUTSIDE, "read", n);
        }
        for (int c : new int[] {0, 10, 32, '/', 127, 255}) {
            dueRefused(run, OUTSIDE, "name", c);
        }
        dueRefused(run, OUTSIDE, "poke", size, 1);
        dueRefused(run, OUTSIDE, "cut", size + 1);
        dueRefused(run, OUTSIDE, "link", Math.max(0, files - 1));
        dueRefused(run, OUTSIDE, "link", files);
        dueRefused(run, OUTSIDE, "write", 3);
        dueRefused(run, OUTSIDE, "read", 3);
        if (files == 0) {
            dueRefused(run, OUTSIDE, "name", 'a');
            dueRefused(run, OUTSIDE, "data", 1);
        }
    }

    private static void dueAsking(Run run) {
        for (int i : new int[] {-1, 0, 1, 12, Integer.MAX_VALUE}) {
            dueLike(run, new Call("row", i));
            dueLike(run, new Call("got", i, 0));
            dueLike(run, new Call("got", 0, i));
            for (int what = -1; what <= 5; what++) {
                dueLike(run, new Call("told", i, what, 0));
            }
        }
        dueLike(run, new Call("place"));
        dueLike(run, new Call("entries"));
        dueLike(run, new Call("same"));
    }

    private static void dueNo() {
        dueRefused(nameless(), NO, "file");
        dueRefused(link(), NO, "data", 1);
        dueRefused(link(), NO, "link", 0);
        dueRefused(link().file("c", ""), NO, "link", 1);
        dueRefused(link().file("c", "C"), NO, "link", 0);
        for (int form = 0; form < 3; form++) {
            dueRefused(nameless(), NO, "write", form);
            dueRefused(trailer(), NO, "write", form);
            dueRefused(trailer().file("c", ""), NO, "write", form);
        }
        Run last = new Run();
        for (int i = 0; i < 11; i++) {
            last.file("n", "");
        }
        dueRefused(last.file("", ""), NO, "file");
    }

    private static void dueFull() {
        dueRefused(twelve(), FULL, "file");
        dueRefused(fullRow(), FULL, "file");
        dueRefused(fullFile(), FULL, "name", 'x');
        dueRefused(fullFile(), FULL, "data", 1);
        dueRefused(fullRow(), FULL, "put", 1);
    }

    private static void dueRefused(Run run, int answer, String name, int... arguments) {
        Call call = new Call(name, arguments);
        CHECK.due(call + " behind " + run.calls.size() + " calls", call.answer(run.made()), answer);
        dueLike(run, call);
    }

    /** The object that was asked this call answers like one that was not. */
    private static void dueLike(Run run, Call call) {
        String with = call + " behind " + run.calls.size() + " calls: ";
        SmallArchives x = run.made();
        int size = x.row(SmallArchives.NONE);
        List<Call> asked = new ArrayList<>();
        for (int i = -1; i <= size; i++) {
            asked.add(new Call("row", i));
        }
        addQuestions(asked, x);
        dueAlike(with, run, call, new Run(), asked);
        for (Run end : ends()) {
            dueAlike(with, run, call, end, new ArrayList<>());
        }
        // A FILE that has no NAME, or TRAILER!, has another one then, and FILES can be seen in THE ROW.
        Run seen = new Run().then("name", 'x').then("write", 2);
        SmallArchives y = run.made();
        y.name('x');
        y.write(2);
        int written = y.row(SmallArchives.NONE);
        List<Call> bytes = new ArrayList<>();
        for (int i = -1; i < written; i++) {
            bytes.add(new Call("row", i));
        }
        dueAlike(with, run, call, seen, bytes);
    }

    private static void addQuestions(List<Call> asked, SmallArchives x) {
        asked.add(new Call("place"));
        asked.add(new Call("entries"));
        asked.add(new Call("same"));
        int entries = x.entries();
        for (int i = 0; i < entries; i++) {
            for (int what = 0; what < 4; what++) {
                asked.add(new Call("told", i, what, 0));
            }
            for (int k = 0; k <= x.told(i, 0, 0); k++) {
                asked.add(new Call("told", i, 4, k));
            }
            for (int k = 0; k <= x.told(i, 1, 0); k++) {
                asked.add(new Call("got", i, k));
            }
        }
    }

    private static List<Run> ends() {
        List<Run> ends = new ArrayList<>();
        ends.add(new Run().then("clear").then("file"));
        ends.add(new Run().then("name", 'x').then("file").then("clear"));
        ends.add(new Run().then("data", 1).then("data", 2));
        ends.add(new Run().then("link", 0).then("data", 1));
        ends.add(new Run().then("put", 7).then("row", -1));
        ends.add(new Run().then("cut", 0));
        for (int form = 0; form < 3; form++) {
            ends.add(new Run().then("read", form).then("place").then("entries").then("same"));
        }
        return ends;
    }

    /** The questions are put to as many pairs of objects as it takes: none is used for more than its calls. */
    private static void dueAlike(String with, Run run, Call call, Run end, List<Call> questions) {
        int room = CALLS - run.calls.size() - 1 - end.calls.size();
        for (int from = 0; from == 0 || from < questions.size(); from += room) {
            SmallArchives asked = run.made();
            SmallArchives plain = run.made();
            call.answer(asked);
            for (Call next : end.calls) {
                CHECK.due(with + next, next.answer(asked), next.answer(plain));
            }
            for (Call next : questions.subList(from, Math.min(from + room, questions.size()))) {
                CHECK.due(with + next, next.answer(asked), next.answer(plain));
            }
        }
    }
}
