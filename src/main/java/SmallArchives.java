/**
 * Small archives: FILES put into one row of bytes by one of three FORMS, and read back.
 *
 * <p>The words in capitals are those of the document. Nothing is made after the constructor but the
 * exceptions of got(): every row has its final length from the start and is used again.
 */
public final class SmallArchives {
    public static final int NONE = -1, OUTSIDE = -2, NO = -3, FULL = -4;

    private static final int FILE_LIMIT = 12;
    private static final int NAME_LIMIT = 20;
    private static final int CONTENTS_LIMIT = 60;
    private static final int TABLE_LIMIT = 300;
    private static final int ROW_LIMIT = 1500;
    // No ENTRY has fewer than 12 bytes (FORM 1, a NAME of one); one more may begin at THE ROW's end.
    private static final int ENTRY_LIMIT = ROW_LIMIT / 12 + 1;

    private static final int KIND_NULL = 1;
    private static final int KIND_INDEX = 2;
    private static final int KIND_SIZE = 3;
    private static final int KIND_FORM = 4;
    private static final int KIND_SUM = 5;
    private static final int KIND_LOST = 6;
    private static final int READ_BASE = -20;

    private static final int LINE_END = 10;
    private static final int BLANK = 32;
    private static final int SLASH = 47;
    private static final String TRAILER = "TRAILER!";

    private final Files files;
    private final Bytes row;
    // A FORM is written here first, so that THE ROW stays if it comes to too much.
    private final Bytes draft;
    private final Entries found;
    private final Cursor cursor;
    private final Heads heads;
    private final Numbers numbers;
    private final Lines lines;

    public SmallArchives() {
        files = new Files();
        row = new Bytes(ROW_LIMIT);
        draft = new Bytes(ROW_LIMIT);
        found = new Entries();
        cursor = new Cursor(row);
        heads = new Heads();
        numbers = new Numbers();
        lines = new Lines();
    }

    public int file() {
        if (files.endsUnnamed()) {
            return NO;
        }
        if (files.count() >= FILE_LIMIT) {
            return FULL;
        }
        files.begin();
        return files.last();
    }

    public int name(int c) {
        int last = files.last();
        if (!files.has(last) || !isNameByte(c)) {
            return OUTSIDE;
        }
        if (files.nameLength(last) >= NAME_LIMIT) {
            return FULL;
        }
        files.addNameByte(c);
        return files.nameLength(last);
    }

    public int data(int v) {
        int last = files.last();
        if (!files.has(last) || !isByte(v)) {
            return OUTSIDE;
        }
        if (files.isLink(last)) {
            return NO;
        }
        if (files.contentsLength(last) >= CONTENTS_LIMIT) {
            return FULL;
        }
        files.addContentsByte(v);
        return files.contentsLength(last);
    }

    public int link(int to) {
        int last = files.last();
        if (to < 0 || to >= last) {
            return OUTSIDE;
        }
        if (files.isLink(to) || files.isLink(last) || files.contentsLength(last) > 0) {
            return NO;
        }
        files.linkLast(to);
        return 1;
    }

    public int clear() {
        int count = files.count();
        files.restart();
        return count;
    }

    public int write(int form) {
        if (!isForm(form)) {
            return OUTSIDE;
        }
        if (files.endsUnnamed() || files.hasTrailer()) {
            return NO;
        }
        draft.restart();
        formOf(form).pack(files, draft);
        if (draft.hasOverflowed()) {
            return FULL;
        }
        row.become(draft);
        return row.size();
    }

    public int put(int v) {
        if (!isByte(v)) {
            return OUTSIDE;
        }
        if (row.isFull()) {
            return FULL;
        }
        row.add(v);
        return row.size();
    }

    public int row(int i) {
        if (i == NONE) {
            return row.size();
        }
        return row.has(i) ? row.at(i) : OUTSIDE;
    }

    public int poke(int i, int v) {
        if (!row.has(i) || !isByte(v)) {
            return OUTSIDE;
        }
        int old = row.at(i);
        row.change(i, v);
        return old;
    }

    public int cut(int n) {
        int size = row.size();
        if (n < 0 || n > size) {
            return OUTSIDE;
        }
        row.shorten(n);
        return size - n;
    }

    public int read(int form) {
        if (!isForm(form)) {
            return OUTSIDE;
        }
        found.restart();
        cursor.restart();
        formOf(form).unpack(cursor, found);
        return cursor.hasFinding() ? READ_BASE - cursor.findingKind() : found.count();
    }

    public int place() {
        return cursor.findingPlace();
    }

    public int entries() {
        return found.count();
    }

    public int told(int i, int what, int k) {
        if (!found.has(i)) {
            return OUTSIDE;
        }
        switch (what) {
            case 0:
                return found.nameLength(i);
            case 1:
                return found.contentsLength(i);
            case 2:
                return found.beginOf(i);
            case 3:
                return found.firstOfGroup(i);
            case 4:
                return found.nameByte(i, k);
            default:
                return OUTSIDE;
        }
    }

    public int got(int i, int k) throws IndexOutOfBoundsException {
        int b = found.contentsByte(i, k);
        if (b == NONE) {
            throw new IndexOutOfBoundsException("no such byte of an ENTRY");
        }
        return b;
    }

    public int same() {
        if (found.count() != files.count()) {
            return 0;
        }
        for (int i = 0; i < files.count(); i++) {
            if (!found.hasNameOf(files, i) || !found.hasContentsOf(files, i)) {
                return 0;
            }
        }
        return 1;
    }

    private static boolean isForm(int form) {
        return form >= 0 && form <= 2;
    }

    private Form formOf(int form) {
        switch (form) {
            case 0:
                return heads;
            case 1:
                return numbers;
            default:
                return lines;
        }
    }

    private static boolean isByte(int v) {
        return v >= 0 && v <= 255;
    }

    private static boolean isNameByte(int c) {
        return c >= 33 && c <= 126 && c != SLASH;
    }

    private static boolean isFigure(int c) {
        return c >= '0' && c <= '9';
    }

    private static boolean isOdd(int n) {
        return (n & 1) != 0;
    }

    /** A row of bytes with a limit. */
    private static final class Bytes {
        private final int[] cells;
        private int length;
        private boolean overflowed;

        Bytes(int limit) {
            cells = new int[Math.max(0, limit)];
        }

        int size() {
            return length;
        }

        boolean has(int i) {
            return i >= 0 && i < length;
        }

        boolean isFull() {
            return length >= cells.length;
        }

        boolean hasOverflowed() {
            return overflowed;
        }

        int at(int i) {
            return i >= 0 && i < length ? cells[i] : NONE;
        }

        // A FORM is put together from many small parts: whether all fitted is asked once, at its end.
        void add(int v) {
            if (length >= cells.length) {
                overflowed = true;
                return;
            }
            cells[length] = v;
            length++;
        }

        void addTwo(int v) {
            add((v >> 8) & 255);
            add(v & 255);
        }

        void addText(String text) {
            for (int i = 0; i < text.length(); i++) {
                add(text.charAt(i));
            }
        }

        void addFigures(int value) {
            for (int unit = 1000; unit > 0; unit /= 10) {
                if (value >= unit || unit == 1) {
                    add('0' + value / unit % 10);
                }
            }
        }

        void addBlanksTo(int stop) {
            for (int left = stop - length; left > 0; left--) {
                add(BLANK);
            }
        }

        void addName(Files files, int i) {
            for (int k = 0; k < files.nameLength(i); k++) {
                add(files.nameByte(i, k));
            }
        }

        void addContents(Files files, int i) {
            for (int k = 0; k < files.contentsLength(i); k++) {
                add(files.contentsByte(i, k));
            }
        }

        void change(int i, int v) {
            if (i >= 0 && i < length) {
                cells[i] = v;
            }
        }

        void shorten(int n) {
            if (n >= 0 && n < length) {
                length = n;
            }
        }

        void restart() {
            length = 0;
            overflowed = false;
        }

        void become(Bytes other) {
            restart();
            for (int i = 0; i < other.size(); i++) {
                add(other.at(i));
            }
        }
    }

    /** Short rows of bytes behind one another: only the last one grows, so that one array holds all. */
    private static final class Strips {
        private final int[] cells;
        private final int[] starts;
        private int used;
        private int count;

        Strips(int countLimit, int cellLimit) {
            starts = new int[Math.max(0, countLimit)];
            cells = new int[Math.max(0, cellLimit)];
        }

        int count() {
            return count;
        }

        void begin() {
            if (count < starts.length) {
                starts[count] = used;
                count++;
            }
        }

        void add(int v) {
            if (count > 0 && used < cells.length) {
                cells[used] = v;
                used++;
            }
        }

        void dropLast() {
            if (count > 0) {
                count--;
                used = starts[count];
            }
        }

        void restart() {
            used = 0;
            count = 0;
        }

        int length(int i) {
            if (i < 0 || i >= count) {
                return 0;
            }
            int stop = i + 1 < count ? starts[i + 1] : used;
            return stop - starts[i];
        }

        int at(int i, int k) {
            return k >= 0 && k < length(i) ? cells[starts[i] + k] : NONE;
        }
    }

    /** Things in order with a NAME and CONTENTS, which may be those of another one. */
    private abstract static class Shelf {
        private final Strips names;
        private final Strips contents;

        Shelf(int limit, int contentsLimit) {
            names = new Strips(limit, limit * NAME_LIMIT);
            contents = new Strips(limit, contentsLimit);
        }

        /** The one whose own bytes are those of i. */
        abstract int holder(int i);

        int count() {
            return names.count();
        }

        int last() {
            return names.count() - 1;
        }

        boolean has(int i) {
            return i >= 0 && i < names.count();
        }

        void addThing() {
            names.begin();
            contents.begin();
        }

        void dropLast() {
            names.dropLast();
            contents.dropLast();
        }

        void restart() {
            names.restart();
            contents.restart();
        }

        void addNameByte(int c) {
            names.add(c);
        }

        void addContentsByte(int v) {
            contents.add(v);
        }

        int nameLength(int i) {
            return names.length(i);
        }

        int nameByte(int i, int k) {
            return names.at(i, k);
        }

        int contentsLength(int i) {
            return contents.length(holder(i));
        }

        int contentsByte(int i, int k) {
            return contents.at(holder(i), k);
        }

        int contentsSum(int i) {
            int owner = holder(i);
            int sum = 0;
            for (int k = 0; k < contents.length(owner); k++) {
                sum += contents.at(owner, k);
            }
            return sum & 65535;
        }

        boolean isNamed(int i, String text) {
            if (names.length(i) != text.length()) {
                return false;
            }
            for (int k = 0; k < text.length(); k++) {
                if (names.at(i, k) != text.charAt(k)) {
                    return false;
                }
            }
            return true;
        }

        boolean hasNameOf(Shelf other, int i) {
            if (nameLength(i) != other.nameLength(i)) {
                return false;
            }
            for (int k = 0; k < nameLength(i); k++) {
                if (nameByte(i, k) != other.nameByte(i, k)) {
                    return false;
                }
            }
            return true;
        }

        boolean hasContentsOf(Shelf other, int i) {
            int length = contentsLength(i);
            if (length != other.contentsLength(i)) {
                return false;
            }
            for (int k = 0; k < length; k++) {
                if (contentsByte(i, k) != other.contentsByte(i, k)) {
                    return false;
                }
            }
            return true;
        }
    }

    /** FILES; a LINK's target is never a LINK, so that one step leads to the bytes. */
    private static final class Files extends Shelf {
        private final int[] targets;

        Files() {
            super(FILE_LIMIT, FILE_LIMIT * CONTENTS_LIMIT);
            targets = new int[FILE_LIMIT];
        }

        void begin() {
            addThing();
            setTarget(NONE);
        }

        void linkLast(int to) {
            setTarget(to);
        }

        private void setTarget(int to) {
            int i = last();
            if (i >= 0 && i < targets.length) {
                targets[i] = to;
            }
        }

        boolean isLink(int i) {
            return holder(i) != i;
        }

        int holder(int i) {
            return has(i) && i < targets.length && targets[i] != NONE ? targets[i] : i;
        }

        boolean endsUnnamed() {
            return count() > 0 && nameLength(last()) == 0;
        }

        boolean hasTrailer() {
            for (int i = 0; i < count(); i++) {
                if (isNamed(i, TRAILER)) {
                    return true;
                }
            }
            return false;
        }

        // A target is elder than its LINKS, so it is the first FILE that has their NUMBER.
        int numberOf(int i) {
            int number = 1;
            for (int j = 0; j < holder(i); j++) {
                if (!isLink(j)) {
                    number++;
                }
            }
            return number;
        }

        int linksOf(int i) {
            int links = 0;
            for (int j = 0; j < count(); j++) {
                if (holder(j) == holder(i)) {
                    links++;
                }
            }
            return links;
        }

        boolean isLastOfGroup(int i) {
            for (int j = i + 1; j < count(); j++) {
                if (holder(j) == holder(i)) {
                    return false;
                }
            }
            return true;
        }
    }

    /** The ENTRIES READ; THE ROW may change behind them, so they keep their own bytes. */
    private static final class Entries extends Shelf {
        private final int[] begins;
        private final int[] numbers;
        private final int[] links;
        private final int[] holders;

        Entries() {
            super(ENTRY_LIMIT, ROW_LIMIT);
            begins = new int[ENTRY_LIMIT];
            numbers = new int[ENTRY_LIMIT];
            links = new int[ENTRY_LIMIT];
            holders = new int[ENTRY_LIMIT];
        }

        void begin(int place) {
            addThing();
            int i = last();
            if (i >= 0 && i < begins.length) {
                begins[i] = place;
            }
            setNumber(0, 1);
            setHolder(i, i);
        }

        void setNumber(int number, int linksTold) {
            int i = last();
            if (i >= 0 && i < numbers.length && i < links.length) {
                numbers[i] = number;
                links[i] = linksTold;
            }
        }

        private void setHolder(int i, int owner) {
            if (i >= 0 && i < holders.length) {
                holders[i] = owner;
            }
        }

        int beginOf(int i) {
            return has(i) && i < begins.length ? begins[i] : NONE;
        }

        private int numberAt(int i) {
            return has(i) && i < numbers.length ? numbers[i] : 0;
        }

        private int linksAt(int i) {
            return has(i) && i < links.length ? links[i] : 1;
        }

        private boolean areLinked(int i, int j) {
            return linksAt(i) > 1 && linksAt(j) > 1 && numberAt(i) == numberAt(j);
        }

        int holder(int i) {
            return has(i) && i < holders.length ? holders[i] : i;
        }

        // Only when reading has ended is it known which one of a group was READ last.
        void shareContents() {
            for (int i = 0; i < count(); i++) {
                if (linksAt(i) > 1) {
                    setHolder(i, lastOfGroup(i));
                }
            }
        }

        private int lastOfGroup(int i) {
            for (int j = last(); j > i; j--) {
                if (areLinked(i, j)) {
                    return j;
                }
            }
            return i;
        }

        int firstOfGroup(int i) {
            for (int j = 0; j < i && j < count(); j++) {
                if (areLinked(i, j)) {
                    return j;
                }
            }
            return i;
        }

        private int countAlike(int i) {
            int alike = 0;
            for (int j = 0; j < count(); j++) {
                if (numberAt(j) == numberAt(i) && linksAt(j) == linksAt(i)) {
                    alike++;
                }
            }
            return alike;
        }

        int firstLost() {
            for (int i = 0; i < count(); i++) {
                if (linksAt(i) > 1 && countAlike(i) != linksAt(i)) {
                    return i;
                }
            }
            return NONE;
        }
    }

    /** Where reading stands in THE ROW, and the FINDING that ended it. Tests answer false with a FINDING. */
    private static final class Cursor {
        private final Bytes row;
        private int at;
        private int end;
        private int kind;
        private int place;

        Cursor(Bytes row) {
            this.row = row;
            place = NONE;
        }

        void restart() {
            at = 0;
            end = row.size();
            kind = 0;
            place = NONE;
        }

        int position() {
            return at;
        }

        boolean hasFinding() {
            return kind != 0;
        }

        int findingKind() {
            return kind;
        }

        int findingPlace() {
            return place;
        }

        boolean hasMore() {
            return kind == 0 && at < end;
        }

        int byteAt(int i) {
            return row.at(i);
        }

        int peek() {
            return row.at(at);
        }

        int take() {
            int b = row.at(at);
            if (at < end) {
                at++;
            }
            return b;
        }

        int takeTwo() {
            int high = take();
            return (high << 8) | take();
        }

        boolean find(int findingKind, int findingPlace) {
            kind = findingKind;
            place = findingPlace;
            return false;
        }

        boolean refuseHere() {
            return at < end ? find(KIND_FORM, at) : find(KIND_INDEX, end);
        }

        boolean hasBytes(int n) {
            return n <= end - at || find(KIND_INDEX, end);
        }

        boolean expect(int b) {
            if (row.at(at) != b) {
                return refuseHere();
            }
            at++;
            return true;
        }

        boolean expectText(String text) {
            for (int i = 0; i < text.length(); i++) {
                if (!expect(text.charAt(i))) {
                    return false;
                }
            }
            return true;
        }

        boolean expectBlanksTo(int stop) {
            for (int left = stop - at; left > 0; left--) {
                if (!expect(BLANK)) {
                    return false;
                }
            }
            return true;
        }

        /** The number that figures tell, of which one at least must stand there; NONE: a FINDING. */
        int takeFigures(int stop) {
            if (!isFigure(row.at(at))) {
                refuseHere();
                return NONE;
            }
            int value = 0;
            for (int left = stop - at; left > 0 && isFigure(row.at(at)); left--) {
                value = value * 10 + row.at(at) - '0';
                at++;
            }
            return value;
        }

        boolean skip(int n) {
            if (!hasBytes(n)) {
                return false;
            }
            at += n;
            return true;
        }

        boolean takeContents(Entries entries, int size) {
            if (!hasBytes(size)) {
                return false;
            }
            for (int k = 0; k < size; k++) {
                entries.addContentsByte(take());
            }
            return true;
        }
    }

    /** One of the three ways to put FILES into a row of bytes and to read them there. */
    private abstract static class Form {
        abstract void pack(Files files, Bytes out);

        abstract void unpack(Cursor in, Entries entries);
    }

    /** FORM 0, HEADS. */
    private static final class Heads extends Form {
        private static final String START = "!<a>";
        private static final String HEAD_END = "`\n";
        private static final int NAME_FIELD = 8;
        private static final int HEAD_FIELDS = 12;
        private static final int SHORT_NAME = 7;

        // What the latest NAME FIELD tells beside a short NAME, of which longPlace is NONE.
        private int longPlace;
        private boolean isTable;
        private int tableStart;
        private int tableSize;

        void pack(Files files, Bytes out) {
            out.addText(START);
            packTable(files, out);
            int placeInTable = 0;
            for (int i = 0; i < files.count(); i++) {
                packName(files, i, placeInTable, out);
                packSize(files.contentsLength(i), out);
                out.addContents(files, i);
                packPad(files.contentsLength(i), out);
                placeInTable += tablePart(files, i);
            }
        }

        private static int tablePart(Files files, int i) {
            int length = files.nameLength(i);
            return length > SHORT_NAME ? length + 2 : 0;
        }

        private static void packTable(Files files, Bytes out) {
            int size = 0;
            for (int i = 0; i < files.count(); i++) {
                size += tablePart(files, i);
            }
            if (size == 0) {
                return;
            }
            int field = out.size();
            out.addText("//");
            out.addBlanksTo(field + NAME_FIELD);
            packSize(size, out);
            for (int i = 0; i < files.count(); i++) {
                if (tablePart(files, i) > 0) {
                    out.addName(files, i);
                    out.addText("/\n");
                }
            }
            packPad(size, out);
        }

        private static void packName(Files files, int i, int placeInTable, Bytes out) {
            int field = out.size();
            if (tablePart(files, i) > 0) {
                out.add(SLASH);
                out.addFigures(placeInTable);
            } else {
                out.addName(files, i);
                out.add(SLASH);
            }
            out.addBlanksTo(field + NAME_FIELD);
        }

        private static void packSize(int size, Bytes out) {
            int stop = out.size() + HEAD_FIELDS - NAME_FIELD;
            out.addFigures(size);
            out.addBlanksTo(stop);
            out.addText(HEAD_END);
        }

        private static void packPad(int size, Bytes out) {
            if (isOdd(size)) {
                out.add(LINE_END);
            }
        }

        void unpack(Cursor in, Entries entries) {
            tableSize = NONE;
            if (!in.expectText(START)) {
                return;
            }
            for (int turn = 0; turn < ENTRY_LIMIT && in.hasMore(); turn++) {
                entries.begin(in.position());
                if (!unpackEntry(in, entries) || isTable) {
                    entries.dropLast();
                }
            }
        }

        private boolean unpackEntry(Cursor in, Entries entries) {
            int field = in.position();
            if (!unpackNameField(in, entries, field + NAME_FIELD)) {
                return false;
            }
            int size = in.takeFigures(field + HEAD_FIELDS);
            if (size == NONE || !in.expectBlanksTo(field + HEAD_FIELDS) || !in.expectText(HEAD_END)) {
                return false;
            }
            if (isTable) {
                return unpackTable(in, field, size);
            }
            if (longPlace != NONE && !unpackLongName(in, entries, field)) {
                return false;
            }
            if (size > CONTENTS_LIMIT) {
                return in.find(KIND_FORM, field + NAME_FIELD);
            }
            return in.takeContents(entries, size) && unpackPad(in, size);
        }

        private boolean unpackNameField(Cursor in, Entries entries, int stop) {
            longPlace = NONE;
            isTable = false;
            if (in.peek() != SLASH) {
                return unpackShortName(in, entries) && in.expectBlanksTo(stop);
            }
            in.take();
            if (in.peek() == SLASH) {
                in.take();
                isTable = true;
                return in.expectBlanksTo(stop);
            }
            longPlace = in.takeFigures(stop);
            return longPlace != NONE && in.expectBlanksTo(stop);
        }

        private static boolean unpackShortName(Cursor in, Entries entries) {
            for (int k = 0; k < SHORT_NAME && isNameByte(in.peek()); k++) {
                entries.addNameByte(in.take());
            }
            return in.expect(SLASH);
        }

        private boolean unpackTable(Cursor in, int field, int size) {
            if (field != START.length()) {
                return in.find(KIND_FORM, field);
            }
            if (size > TABLE_LIMIT) {
                return in.find(KIND_FORM, field + NAME_FIELD);
            }
            tableStart = in.position();
            tableSize = size;
            return in.skip(size) && unpackPad(in, size);
        }

        private boolean unpackLongName(Cursor in, Entries entries, int field) {
            if (tableSize == NONE) {
                return in.find(KIND_NULL, field);
            }
            for (int k = 0; k <= NAME_LIMIT; k++) {
                int c = tableByte(in, longPlace + k);
                if (c == SLASH && k > 0) {
                    return unpackLongNameEnd(in, longPlace + k + 1, field);
                }
                if (c == NONE) {
                    return in.find(KIND_INDEX, field);
                }
                if (k == NAME_LIMIT || !isNameByte(c)) {
                    return in.find(KIND_FORM, field);
                }
                entries.addNameByte(c);
            }
            return false;
        }

        private boolean unpackLongNameEnd(Cursor in, int placeInTable, int field) {
            int c = tableByte(in, placeInTable);
            if (c == NONE) {
                return in.find(KIND_INDEX, field);
            }
            return c == LINE_END || in.find(KIND_FORM, field);
        }

        private int tableByte(Cursor in, int k) {
            return k >= 0 && k < tableSize ? in.byteAt(tableStart + k) : NONE;
        }

        private static boolean unpackPad(Cursor in, int size) {
            return !isOdd(size) || in.expect(LINE_END);
        }
    }

    /** FORM 1, NUMBERS. */
    private static final class Numbers extends Form {
        private static final int MARK_HIGH = 199;
        private static final int MARK_LOW = 113;
        private static final int BEHIND_MARK = 8;
        private static final int LINKS_FIELD = 4;
        private static final int NAME_SIZE_FIELD = 5;
        private static final int SIZE_FIELD = 6;
        private static final int SUM_FIELD = 8;

        void pack(Files files, Bytes out) {
            for (int i = 0; i < files.count(); i++) {
                packFile(files, i, out);
            }
            packHead(0, 1, TRAILER.length(), 0, 0, out);
            out.addText(TRAILER);
            packNameEnd(TRAILER.length(), out);
        }

        private static void packFile(Files files, int i, Bytes out) {
            boolean full = files.isLastOfGroup(i);
            int size = full ? files.contentsLength(i) : 0;
            int sum = full ? files.contentsSum(i) : 0;
            packHead(files.numberOf(i), files.linksOf(i), files.nameLength(i), size, sum, out);
            out.addName(files, i);
            packNameEnd(files.nameLength(i), out);
            if (full) {
                out.addContents(files, i);
            }
            if (isOdd(size)) {
                out.add(0);
            }
        }

        private static void packHead(int number, int links, int nameLength, int size, int sum, Bytes out) {
            out.add(MARK_HIGH);
            out.add(MARK_LOW);
            out.addTwo(number);
            out.add(links);
            out.add(nameLength + 1);
            out.addTwo(size);
            out.addTwo(sum);
        }

        private static void packNameEnd(int nameLength, Bytes out) {
            out.add(0);
            if (isOdd(nameLength + 1)) {
                out.add(0);
            }
        }

        void unpack(Cursor in, Entries entries) {
            boolean goesOn = true;
            for (int turn = 0; turn < ENTRY_LIMIT && goesOn; turn++) {
                entries.begin(in.position());
                // TRAILER! is none, but is held to all that an ENTRY is held to.
                goesOn = unpackEntry(in, entries) && !entries.isNamed(entries.last(), TRAILER);
                if (!goesOn) {
                    entries.dropLast();
                }
            }
            entries.shareContents();
            if (!in.hasFinding() && unpackZeros(in)) {
                findLost(in, entries);
            }
        }

        private static boolean unpackEntry(Cursor in, Entries entries) {
            int head = in.position();
            if (!in.expect(MARK_HIGH) || !in.expect(MARK_LOW) || !in.hasBytes(BEHIND_MARK)) {
                return false;
            }
            int number = in.takeTwo();
            int links = in.take();
            int nameSize = (byte) in.take();
            int size = (short) in.takeTwo();
            int sum = in.takeTwo();
            if (!isHeadSound(in, head, links, nameSize, size)
                    || !unpackName(in, entries, nameSize - 1)
                    || !in.takeContents(entries, size)) {
                return false;
            }
            if (entries.contentsSum(entries.last()) != sum) {
                return in.find(KIND_SUM, head + SUM_FIELD);
            }
            entries.setNumber(number, links);
            return !isOdd(size) || in.expect(0);
        }

        private static boolean isHeadSound(Cursor in, int head, int links, int nameSize, int size) {
            if (links == 0) {
                return in.find(KIND_FORM, head + LINKS_FIELD);
            }
            if (nameSize < 0) {
                return in.find(KIND_SIZE, head + NAME_SIZE_FIELD);
            }
            if (size < 0) {
                return in.find(KIND_SIZE, head + SIZE_FIELD);
            }
            if (nameSize < 2 || nameSize > NAME_LIMIT + 1) {
                return in.find(KIND_FORM, head + NAME_SIZE_FIELD);
            }
            return size <= CONTENTS_LIMIT || in.find(KIND_FORM, head + SIZE_FIELD);
        }

        private static boolean unpackName(Cursor in, Entries entries, int nameLength) {
            for (int k = 0; k < nameLength; k++) {
                if (!isNameByte(in.peek())) {
                    return in.refuseHere();
                }
                entries.addNameByte(in.take());
            }
            return in.expect(0) && (!isOdd(nameLength + 1) || in.expect(0));
        }

        private static boolean unpackZeros(Cursor in) {
            for (int turn = 0; turn < ROW_LIMIT && in.hasMore(); turn++) {
                if (!in.expect(0)) {
                    return false;
                }
            }
            return true;
        }

        private static void findLost(Cursor in, Entries entries) {
            int lost = entries.firstLost();
            if (lost != NONE) {
                in.find(KIND_LOST, entries.beginOf(lost));
            }
        }
    }

    /** FORM 2, LINES. */
    private static final class Lines extends Form {
        private static final String BEGIN = "begin ";
        private static final String END = "end\n";
        private static final int LINE_BYTES = 15;
        private static final int FIRST_SIGN = 33;
        private static final int SIGN_FOR_0 = 96;

        void pack(Files files, Bytes out) {
            for (int i = 0; i < files.count(); i++) {
                out.addText(BEGIN);
                out.addName(files, i);
                out.add(LINE_END);
                for (int from = 0; from < files.contentsLength(i); from += LINE_BYTES) {
                    packLine(files, i, from, out);
                }
                out.add(SIGN_FOR_0);
                out.add(LINE_END);
                out.addText(END);
            }
        }

        private static void packLine(Files files, int i, int from, Bytes out) {
            int stop = Math.min(from + LINE_BYTES, files.contentsLength(i));
            out.add(signFor(stop - from));
            for (int k = from; k < stop; k += 3) {
                int three = byteOr0(files, i, k) << 16;
                three |= byteOr0(files, i, k + 1) << 8;
                three |= byteOr0(files, i, k + 2);
                for (int shift = 18; shift >= 0; shift -= 6) {
                    out.add(signFor((three >> shift) & 63));
                }
            }
            out.add(LINE_END);
        }

        private static int byteOr0(Files files, int i, int k) {
            return Math.max(0, files.contentsByte(i, k));
        }

        private static int signFor(int v) {
            return v == 0 ? SIGN_FOR_0 : BLANK + v;
        }

        void unpack(Cursor in, Entries entries) {
            for (int turn = 0; turn < ENTRY_LIMIT && in.hasMore(); turn++) {
                entries.begin(in.position());
                if (!unpackEntry(in, entries)) {
                    entries.dropLast();
                }
            }
        }

        private static boolean unpackEntry(Cursor in, Entries entries) {
            return in.expectText(BEGIN)
                    && unpackName(in, entries)
                    && unpackLines(in, entries)
                    && in.expect(LINE_END)
                    && in.expectText(END);
        }

        private static boolean unpackName(Cursor in, Entries entries) {
            for (int k = 0; k < NAME_LIMIT && isNameByte(in.peek()); k++) {
                entries.addNameByte(in.take());
            }
            return entries.nameLength(entries.last()) > 0 ? in.expect(LINE_END) : in.refuseHere();
        }

        /** Up to the sign for 0, which ends them. */
        private static boolean unpackLines(Cursor in, Entries entries) {
            int total = 0;
            int before = LINE_BYTES;
            // Every line has a byte at least, so there are no more lines than bytes.
            for (int turn = 0; turn <= CONTENTS_LIMIT; turn++) {
                int count = signAt(in);
                if (count == NONE || count > LINE_BYTES) {
                    return in.refuseHere();
                }
                if (count > 0 && (before < LINE_BYTES || total + count > CONTENTS_LIMIT)) {
                    return in.refuseHere();
                }
                in.take();
                if (count == 0) {
                    return true;
                }
                if (!unpackSigns(in, entries, count) || !in.expect(LINE_END)) {
                    return false;
                }
                total += count;
                before = count;
            }
            return false;
        }

        private static boolean unpackSigns(Cursor in, Entries entries, int count) {
            for (int k = 0; k < count; k += 3) {
                int three = 0;
                for (int turn = 0; turn < 4; turn++) {
                    int v = signAt(in);
                    if (v == NONE) {
                        return in.refuseHere();
                    }
                    in.take();
                    three = (three << 6) | v;
                }
                for (int j = 0; j < 3 && k + j < count; j++) {
                    entries.addContentsByte((three >> (16 - 8 * j)) & 255);
                }
            }
            return true;
        }

        /** What the sign tells at which reading stands; NONE: there is none. */
        private static int signAt(Cursor in) {
            int c = in.peek();
            return c >= FIRST_SIGN && c <= SIGN_FOR_0 ? (c - BLANK) & 63 : NONE;
        }
    }
}
