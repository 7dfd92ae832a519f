/** One call with its arguments, so that runs of calls can be kept, told, and made again on another object. */
final class Call {
    /** What answer() gives where got() throws; no call answers it. */
    static final int THROWN = -99;

    private final String name;
    private final int[] arguments;

    Call(String name, int... arguments) {
        this.name = name;
        this.arguments = arguments;
    }

    int answer(SmallArchives x) {
        switch (name) {
            case "file": return x.file();
            case "name": return x.name(arguments[0]);
            case "data": return x.data(arguments[0]);
            case "link": return x.link(arguments[0]);
            case "clear": return x.clear();
            case "write": return x.write(arguments[0]);
            case "put": return x.put(arguments[0]);
            case "row": return x.row(arguments[0]);
            case "poke": return x.poke(arguments[0], arguments[1]);
            case "cut": return x.cut(arguments[0]);
            case "read": return x.read(arguments[0]);
            case "place": return x.place();
            case "entries": return x.entries();
            case "told": return x.told(arguments[0], arguments[1], arguments[2]);
            case "got": return got(x);
            case "same": return x.same();
            default: throw new IllegalArgumentException(name);
        }
    }

    private int got(SmallArchives x) {
        try {
            return x.got(arguments[0], arguments[1]);
        } catch (IndexOutOfBoundsException e) {
            return THROWN;
        }
    }

    @Override
    public String toString() {
        StringBuilder text = new StringBuilder(name).append('(');
        for (int i = 0; i < arguments.length; i++) {
            text.append(i == 0 ? "" : ", ").append(arguments[i]);
        }
        return text.append(')').toString();
    }
}
