/**
 * Part 3, "read back, whatever stands there": a ROW of each FORM with each of its bytes changed to each
 * other one, and cut behind each of them, held against the Model.
 */
public final class ChangedTest {
    private static final Check CHECK = new Check("changed");
    private static final int VALUES = 256;
    // 44 calls fill an object and a change asks 24 at most: so many changes stay below 512 calls.
    private static final int CHANGES = 16;

    public static void main(String[] args) {
        for (int form = 0; form < 3; form++) {
            int size = filled(form).row(SmallArchives.NONE);
            for (int i = 0; i < size; i++) {
                for (int from = 0; from < VALUES; from += CHANGES) {
                    changeByte(form, i, from);
                }
                cutBehind(form, i);
            }
        }
        CHECK.end();
    }

    /** A short NAME, a long one, a LINK, and CONTENTS of more than a line, of none and of odd length. */
    private static SmallArchives filled(int form) {
        SmallArchives x = new SmallArchives();
        Check.add(x, "ab", "0123456789abcdef");
        Check.add(x, "long.name", "");
        Check.addLink(x, "c", 0);
        Check.add(x, "seven77", "xyz");
        x.write(form);
        return x;
    }

    private static Model modelOf(SmallArchives x) {
        Model model = new Model();
        int size = x.row(SmallArchives.NONE);
        for (int i = 0; i < size; i++) {
            model.put(x.row(i));
        }
        return model;
    }

    private static void changeByte(int form, int i, int from) {
        SmallArchives x = filled(form);
        Model model = modelOf(filled(form));
        for (int v = from; v < from + CHANGES; v++) {
            String what = "form " + form + ", byte " + i + " is " + v;
            CHECK.due(what + ": poke", x.poke(i, v), model.poke(i, v));
            dueRead(what, x, model, form);
        }
    }

    private static void cutBehind(int form, int n) {
        SmallArchives x = filled(form);
        Model model = modelOf(filled(form));
        String what = "form " + form + ", cut to " + n;
        CHECK.due(what + ": cut", x.cut(n), model.cut(n));
        dueRead(what, x, model, form);
    }

    private static void dueRead(String what, SmallArchives x, Model model, int form) {
        int answer = model.read(form);
        CHECK.dueRead(what, x, form, answer, model.place(), model.entries());
        for (int i = 0; i < model.entries(); i++) {
            for (int told = 0; told < 4; told++) {
                CHECK.due(what + ": told(" + i + ", " + told + ")", x.told(i, told, 0), model.told(i, told, 0));
            }
            int last = model.told(i, 1, 0) - 1;
            if (last >= 0) {
                CHECK.due(what + ": got(" + i + ", " + last + ")", x.got(i, last), model.got(i, last));
            }
        }
    }
}
