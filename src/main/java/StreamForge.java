/**
 * A stream editor: a script is gathered and parsed, lines are gathered, a run sends them through
 * a pattern space and a hold space, and what comes out is told.
 *
 * All rows are made with the object and used again, so that no call makes anything.
 */
public final class StreamForge {
    private static final int SCRIPT_ROOM = 240;
    private static final int LINE_ROOM = 24;
    private static final int MOST_LINES = 12;
    private static final int SPACE_ROOM = 60;
    private static final int OUTPUT_ROOM = 600;
    private static final int APPENDED_ROOM = 200;
    private static final int MOST_COMMANDS = 40;
    private static final int MOST_BLOCKS = 4;
    private static final int MOST_BEGUN = 200;
    private static final int MOST_ITEMS = 14;
    private static final int MOST_STARS = 2;
    private static final int MOST_GROUPS = 3;
    private static final int LETTERS = 26;

    /** Stands where there is no character, place or label. */
    private static final int NONE = -1;
    private static final int NO_MATCH = -2;
    private static final int NOT_REFUSED = -2;

    private static final int NEWLINE = 10;
    private static final int FIRST_CHARACTER = 32;
    private static final int LAST_CHARACTER = 126;

    private static final int SPACE_BASE = 10;
    private static final int HOLD_BASE = 100;
    private static final int LINE_BASE = 10;

    private final Row script = new Row(SCRIPT_ROOM);
    private final Row[] lines = new Row[MOST_LINES];
    private final Parser parser = new Parser();
    private final Editor editor = new Editor();
    private final Matcher matcher = new Matcher();
    private int lineCount;
    private Program program = new Program();
    private Program spare = new Program();
    private boolean parsed;
    private int refusedAt = NOT_REFUSED;

    public StreamForge() {
        for (int j = 0; j < MOST_LINES; j++) {
            lines[j] = new Row(LINE_ROOM);
        }
    }

    public int script(long w) throws IllegalArgumentException, IllegalStateException {
        if (!isText(w, true)) {
            throw new IllegalArgumentException();
        }
        if (!script.hasRoom(textLength(w))) {
            throw new IllegalStateException();
        }
        addText(script, w);
        return script.length;
    }

    public int clear(int what) throws IllegalArgumentException {
        if (what == 0) {
            int had = script.length;
            script.empty();
            return had;
        }
        if (what == 1) {
            int had = lineCount;
            lineCount = 0;
            return had;
        }
        throw new IllegalArgumentException();
    }

    public int parse() throws IllegalArgumentException {
        if (!parser.read(script, spare)) {
            refusedAt = parser.refusedAt();
            throw new IllegalArgumentException();
        }
        refusedAt = NOT_REFUSED;
        Program before = program;
        program = spare;
        spare = before;
        parsed = true;
        return program.size;
    }

    public int where() {
        return refusedAt;
    }

    public int line(long w, long v) throws IllegalArgumentException, IllegalStateException {
        if (!isText(w, false) || !isText(v, false)) {
            throw new IllegalArgumentException();
        }
        if (lineCount >= MOST_LINES) {
            throw new IllegalStateException();
        }
        Row added = lines[lineCount];
        added.empty();
        addText(added, w);
        addText(added, v);
        lineCount++;
        return lineCount;
    }

    public int more(long w) throws IllegalArgumentException, IllegalStateException {
        if (!isText(w, false)) {
            throw new IllegalArgumentException();
        }
        if (lineCount == 0 || !lines[lineCount - 1].hasRoom(textLength(w))) {
            throw new IllegalStateException();
        }
        Row latest = lines[lineCount - 1];
        addText(latest, w);
        return latest.length;
    }

    public int run() throws IllegalStateException, IndexOutOfBoundsException, ArithmeticException {
        if (!parsed) {
            throw new IllegalStateException();
        }
        editor.edit(program, lines, lineCount);
        return editor.output.length;
    }

    public int out(int k) throws IndexOutOfBoundsException {
        int c = editor.output.at(k);
        if (c == NONE) {
            throw new IndexOutOfBoundsException();
        }
        return c;
    }

    public int ran(int what) throws IllegalArgumentException {
        if (what >= SPACE_BASE && what < SPACE_BASE + SPACE_ROOM) {
            return editor.space.at(what - SPACE_BASE);
        }
        if (what >= HOLD_BASE && what < HOLD_BASE + SPACE_ROOM) {
            return editor.hold.at(what - HOLD_BASE);
        }
        switch (what) {
            case 0: return editor.output.length;
            case 1: return editor.linesRead;
            case 2: return editor.begun;
            case 3: return editor.cycles;
            case 4: return editor.replacements;
            default: throw new IllegalArgumentException();
        }
    }

    public int match(int k, int j, int what)
            throws IllegalArgumentException, IndexOutOfBoundsException, IllegalStateException {
        if (what < 0 || what > 1 + 2 * MOST_GROUPS) {
            throw new IllegalArgumentException();
        }
        if (!parsed) {
            throw new IllegalStateException();
        }
        if (k < 0 || k >= program.size) {
            throw new IndexOutOfBoundsException();
        }
        Command command = program.commands[k];
        if (command.kind != 's') {
            throw new IllegalArgumentException();
        }
        if (j < 0 || j >= lineCount) {
            throw new IndexOutOfBoundsException();
        }
        if (!matcher.find(program.items, command.pattern, lines[j], 0)) {
            return NO_MATCH;
        }
        return matcher.told(what);
    }

    public int count(int what) throws IllegalArgumentException {
        if (what >= LINE_BASE) {
            int j = what - LINE_BASE;
            return j < lineCount ? lines[j].length : 0;
        }
        switch (what) {
            case 0: return script.length;
            case 1: return lineCount;
            case 2: return program.size;
            default: throw new IllegalArgumentException();
        }
    }

    private static int byteOf(long w, int place) {
        return (int) (w >>> (56 - 8 * place)) & 255;
    }

    private static boolean isText(long w, boolean withNewlines) {
        for (int i = 0; i < 8; i++) {
            int c = byteOf(w, i);
            boolean printable = c >= FIRST_CHARACTER && c <= LAST_CHARACTER;
            if (c != 0 && !printable && !(withNewlines && c == NEWLINE)) {
                return false;
            }
        }
        return true;
    }

    private static int textLength(long w) {
        int length = 0;
        for (int i = 0; i < 8; i++) {
            if (byteOf(w, i) != 0) {
                length++;
            }
        }
        return length;
    }

    private static void addText(Row row, long w) {
        for (int i = 0; i < 8; i++) {
            int c = byteOf(w, i);
            if (c != 0) {
                row.add(c);
            }
        }
    }

    /** A row of characters with a room that never grows. */
    private static final class Row {
        final char[] chars;
        int length;

        Row(int room) {
            chars = new char[room];
        }

        boolean hasRoom(int added) {
            return added <= chars.length - length;
        }

        int at(int k) {
            return k >= 0 && k < length ? chars[k] : NONE;
        }

        void empty() {
            length = 0;
        }

        void add(int c) {
            if (length < chars.length) {
                chars[length] = (char) c;
                length++;
            }
        }

        void addPart(Row other, int from, int to) {
            for (int i = from; i < to && i < other.length && length < chars.length; i++) {
                chars[length] = other.chars[i];
                length++;
            }
        }

        void dropFirst(int dropped) {
            for (int i = dropped; i < length; i++) {
                chars[i - dropped] = chars[i];
            }
            length -= dropped;
        }

        /** The place of the first 10 from a place on, or the length if there is none. */
        int newlineFrom(int from) {
            int place = from;
            while (place < length && chars[place] != NEWLINE) {
                place++;
            }
            return place;
        }
    }

    /**
     * The items of all patterns of a program, one behind the other. Every item that takes one
     * character is held as the set of what it takes, a bit a character, so that a plain
     * character, a dot and a set are matched alike.
     */
    private static final class Items {
        static final int ONE = 0;
        static final int OPEN = 1;
        static final int CLOSE = 2;
        static final int SAME = 3;

        /** The bit behind those of 32 to 126. */
        private static final int NEWLINE_BIT = 95;

        final int[] kind = new int[SCRIPT_ROOM];
        final int[] group = new int[SCRIPT_ROOM];
        final long[] low = new long[SCRIPT_ROOM];
        final long[] high = new long[SCRIPT_ROOM];
        int size;

        /** No item is shorter than a character of the script, so there is room for each. */
        void add(int itsKind, int itsGroup) {
            if (size < SCRIPT_ROOM) {
                kind[size] = itsKind;
                group[size] = itsGroup;
                low[size] = 0;
                high[size] = 0;
                size++;
            }
        }

        /** The characters from a to b come to the set of the latest item. */
        void allow(int a, int b) {
            int latest = size - 1;
            for (int c = a; c <= b && latest >= 0; c++) {
                int bit = c - FIRST_CHARACTER;
                if (bit < 64) {
                    low[latest] |= 1L << bit;
                } else {
                    high[latest] |= 1L << (bit - 64);
                }
            }
        }

        /** The latest item takes just what it did not take. */
        void turn() {
            int latest = size - 1;
            if (latest >= 0) {
                low[latest] = ~low[latest];
                high[latest] = ~high[latest];
            }
        }

        boolean takes(int item, int c) {
            int bit = c == NEWLINE ? NEWLINE_BIT : c - FIRST_CHARACTER;
            long bits = bit < 64 ? low[item] >>> bit : high[item] >>> (bit - 64);
            return (bits & 1) != 0;
        }
    }

    /** A pattern: a part of a program's items. A star that is not there stands at the end. */
    private static final class Pattern {
        boolean atBeginning;
        boolean atEnd;
        int from;
        int to;
        int firstStar;
        int secondStar;
        int groups;
    }

    private static final class Address {
        static final int NUMBER = 0;
        static final int LAST = 1;
        static final int PATTERN = 2;

        final Pattern pattern = new Pattern();
        int kind;
        int number;
    }

    /** A command; its kind is the character that names it. */
    private static final class Command {
        final Address first = new Address();
        final Address second = new Address();
        final Pattern pattern = new Pattern();
        int kind;
        int at;
        int addresses;
        boolean inverted;
        /** The command to go on with: behind the label, or behind the block. */
        int target;
        int label;
        /** The text, the replacement or FROM, as a part of the program's text. */
        int textFrom;
        int textTo;
        /** Where TO begins in the program's text; it is as long as FROM. */
        int counterpart;
        boolean all;
        boolean print;
        /** The digit of s, 0 without. */
        int digit;
        /** Whether the second address is waited for in the present run. */
        boolean inRange;

        /** Commands are used again: what a script leaves out must not stay from another one. */
        void reset() {
            addresses = 0;
            inverted = false;
            label = NONE;
            all = false;
            print = false;
            digit = 0;
        }

        boolean replaces(int number) {
            int least = Math.max(digit, 1);
            return all ? number >= least : number == least;
        }
    }

    /** A parsed script, with its own copy of the text, since the script may change afterwards. */
    private static final class Program {
        final Row text = new Row(SCRIPT_ROOM);
        final Items items = new Items();
        final Command[] commands = new Command[MOST_COMMANDS];
        int size;

        Program() {
            for (int k = 0; k < MOST_COMMANDS; k++) {
                commands[k] = new Command();
            }
        }
    }

    /** A place in a text, and where that text was refused. */
    private static final class Cursor {
        Row text;
        int at;
        int refusedAt;

        int look(int ahead) {
            int place = at + ahead;
            return place < text.length ? text.chars[place] : NONE;
        }

        /** At the end of the text this tells how many characters there are. */
        boolean refuse(int ahead) {
            refusedAt = at + ahead;
            return false;
        }

        boolean pass(int c) {
            if (look(0) != c) {
                return refuse(0);
            }
            at++;
            return true;
        }
    }

    /** Reads patterns into a program's items. */
    private static final class PatternReader {
        private final Cursor cursor;
        private Items items;
        private Pattern pattern;
        private int itemCount;
        private int starCount;
        private boolean groupOpen;
        /** Whether a star may stand behind what was read last. */
        private boolean repeatable;

        PatternReader(Cursor itsCursor) {
            cursor = itsCursor;
        }

        /** Reads from behind the first / to behind the last one. */
        boolean read(Pattern itsPattern, Items itsItems) {
            begin(itsPattern, itsItems);
            for (int step = 0; step <= SCRIPT_ROOM && cursor.look(0) != '/'; step++) {
                int c = cursor.look(0);
                boolean fits;
                if (c == '*') {
                    fits = readStar();
                } else if (c == '\\') {
                    fits = readEscape();
                } else if (c == '[') {
                    fits = readSet();
                } else if (c == '$' && mayEnd()) {
                    fits = readEnd();
                } else {
                    fits = readPlain();
                }
                if (!fits) {
                    return false;
                }
            }
            finish();
            return groupOpen ? cursor.refuse(0) : cursor.pass('/');
        }

        private void begin(Pattern itsPattern, Items itsItems) {
            pattern = itsPattern;
            items = itsItems;
            pattern.from = items.size;
            pattern.groups = 0;
            pattern.atEnd = false;
            pattern.atBeginning = cursor.look(0) == '^';
            if (pattern.atBeginning) {
                cursor.at++;
            }
            itemCount = 0;
            starCount = 0;
            groupOpen = false;
            repeatable = false;
        }

        private void finish() {
            pattern.to = items.size;
            if (starCount < 1) {
                pattern.firstStar = items.size;
            }
            if (starCount < 2) {
                pattern.secondStar = items.size;
            }
        }

        private boolean readStar() {
            if (!repeatable || starCount == MOST_STARS) {
                return cursor.refuse(0);
            }
            if (starCount == 0) {
                pattern.firstStar = items.size - 1;
            } else {
                pattern.secondStar = items.size - 1;
            }
            starCount++;
            repeatable = false;
            cursor.at++;
            return true;
        }

        /** Behind a $ that ends the script a / could still come, so it is no item yet. */
        private boolean mayEnd() {
            int behind = cursor.look(1);
            return !groupOpen && (behind == '/' || behind == NONE);
        }

        private boolean readEnd() {
            pattern.atEnd = true;
            cursor.at++;
            return true;
        }

        private boolean readPlain() {
            int c = cursor.look(0);
            if (c == NONE || c == NEWLINE) {
                return cursor.refuse(0);
            }
            if (!addOne()) {
                return false;
            }
            if (c == '.') {
                items.turn();
            } else {
                items.allow(c, c);
            }
            cursor.at++;
            return true;
        }

        /** An item that takes one character, and none yet; the cursor stands at its beginning. */
        private boolean addOne() {
            if (itemCount == MOST_ITEMS) {
                return cursor.refuse(0);
            }
            items.add(Items.ONE, 0);
            itemCount++;
            repeatable = true;
            return true;
        }

        private boolean readEscape() {
            int c = cursor.look(1);
            switch (c) {
                case NONE:
                    return cursor.refuse(mayEscape() ? 1 : 0);
                case '(':
                    return openGroup();
                case ')':
                    return closeGroup();
                case '1': case '2': case '3':
                    return readSame(c - '0');
                case '/': case '\\': case '[': case '*': case '.': case '^': case '$':
                    if (!addOne()) {
                        return false;
                    }
                    items.allow(c, c);
                    cursor.at += 2;
                    return true;
                default:
                    return cursor.refuse(0);
            }
        }

        /** Whether anything can stand behind a \ here: an item, or the begin or end of a group. */
        private boolean mayEscape() {
            return itemCount < MOST_ITEMS || groupOpen || pattern.groups < MOST_GROUPS;
        }

        private boolean openGroup() {
            if (groupOpen || pattern.groups == MOST_GROUPS) {
                return cursor.refuse(0);
            }
            pattern.groups++;
            groupOpen = true;
            repeatable = false;
            items.add(Items.OPEN, pattern.groups);
            cursor.at += 2;
            return true;
        }

        private boolean closeGroup() {
            if (!groupOpen) {
                return cursor.refuse(0);
            }
            groupOpen = false;
            repeatable = false;
            items.add(Items.CLOSE, pattern.groups);
            cursor.at += 2;
            return true;
        }

        private boolean readSame(int group) {
            int closed = groupOpen ? pattern.groups - 1 : pattern.groups;
            if (group > closed || itemCount == MOST_ITEMS) {
                return cursor.refuse(0);
            }
            itemCount++;
            repeatable = false;
            items.add(Items.SAME, group);
            cursor.at += 2;
            return true;
        }

        private boolean readSet() {
            if (!addOne()) {
                return false;
            }
            cursor.at++;
            boolean turned = cursor.look(0) == '^';
            if (turned) {
                cursor.at++;
            }
            boolean ended = false;
            for (int step = 0; step <= SCRIPT_ROOM && !ended; step++) {
                if (!readRange()) {
                    return false;
                }
                ended = cursor.look(0) == ']';
            }
            if (turned) {
                items.turn();
            }
            return cursor.pass(']');
        }

        /** A character of a set, or two with a - between; a - just before the ] is a character. */
        private boolean readRange() {
            int a = cursor.look(0);
            if (isOutsideSets(a)) {
                return cursor.refuse(0);
            }
            int b = a;
            if (cursor.look(1) == '-' && cursor.look(2) != ']') {
                cursor.at += 2;
                b = cursor.look(0);
            }
            if (isOutsideSets(b) || b < a) {
                return cursor.refuse(0);
            }
            items.allow(a, b);
            cursor.at++;
            return true;
        }

        private static boolean isOutsideSets(int c) {
            return c == NONE || c == NEWLINE || c == '/' || c == ']';
        }
    }

    /** Reads a script into a program; after a refusal the program is not to be used. */
    private static final class Parser {
        private final Cursor cursor = new Cursor();
        private final PatternReader patterns = new PatternReader(cursor);
        private final int[] openBlocks = new int[MOST_BLOCKS];
        private final int[] behindLabel = new int[LETTERS];
        private int depth;
        private Program program;
        private Command command;

        int refusedAt() {
            return cursor.refusedAt;
        }

        boolean read(Row script, Program filled) {
            begin(script, filled);
            for (int step = 0; step <= SCRIPT_ROOM && cursor.look(0) != NONE; step++) {
                int c = cursor.look(0);
                if (c == ' ' || c == NEWLINE || c == ';') {
                    cursor.at++;
                } else if (c == '}') {
                    if (!closeBlock()) {
                        return false;
                    }
                } else if (!(beginCommand() && readAddresses() && readAction())) {
                    return false;
                }
            }
            return depth == 0 ? joinLabels() : cursor.refuse(0);
        }

        private void begin(Row script, Program filled) {
            program = filled;
            program.text.empty();
            program.text.addPart(script, 0, script.length);
            program.items.size = 0;
            program.size = 0;
            cursor.text = program.text;
            cursor.at = 0;
            depth = 0;
            for (int letter = 0; letter < LETTERS; letter++) {
                behindLabel[letter] = NONE;
            }
        }

        private boolean closeBlock() {
            if (depth == 0) {
                return cursor.refuse(0);
            }
            depth--;
            program.commands[openBlocks[depth]].target = program.size;
            cursor.at++;
            return true;
        }

        private boolean beginCommand() {
            if (program.size == MOST_COMMANDS) {
                return cursor.refuse(0);
            }
            command = program.commands[program.size];
            command.reset();
            program.size++;
            return true;
        }

        private boolean readAddresses() {
            if (startsAddress(cursor.look(0))) {
                if (!readAddress(command.first)) {
                    return false;
                }
                command.addresses = 1;
                if (cursor.look(0) == ',') {
                    cursor.at++;
                    if (!readAddress(command.second)) {
                        return false;
                    }
                    command.addresses = 2;
                }
            }
            passBlanks();
            if (cursor.look(0) == '!') {
                command.inverted = true;
                cursor.at++;
                passBlanks();
            }
            return true;
        }

        private static boolean startsAddress(int c) {
            return c == '$' || c == '/' || (c >= '1' && c <= '9');
        }

        private void passBlanks() {
            for (int step = 0; step < SCRIPT_ROOM && cursor.look(0) == ' '; step++) {
                cursor.at++;
            }
        }

        private boolean readAddress(Address address) {
            int c = cursor.look(0);
            if (!startsAddress(c)) {
                return cursor.refuse(0);
            }
            cursor.at++;
            if (c == '/') {
                address.kind = Address.PATTERN;
                return patterns.read(address.pattern, program.items);
            }
            if (c == '$') {
                address.kind = Address.LAST;
                return true;
            }
            address.kind = Address.NUMBER;
            address.number = c - '0';
            int second = cursor.look(0);
            if (second >= '0' && second <= '9') {
                address.number = 10 * address.number + second - '0';
                cursor.at++;
            }
            return true;
        }

        private boolean readAction() {
            int c = cursor.look(0);
            command.kind = c;
            command.at = cursor.at;
            switch (c) {
                case '{':
                    return openBlock();
                case ':':
                    return placeLabel() && endCommand();
                case 'b': case 't':
                    return readBranch() && endCommand();
                case 's':
                    return readSubstitution() && endCommand();
                case 'y':
                    return readExchange() && endCommand();
                case 'a': case 'i': case 'c':
                    return readText();
                case 'd': case 'D': case 'p': case 'P': case 'n': case 'N': case 'h':
                case 'H': case 'g': case 'G': case 'x': case '=': case 'q':
                    cursor.at++;
                    return endCommand();
                default:
                    return cursor.refuse(0);
            }
        }

        /** What stands behind a command is only looked at: the script's loop passes it. */
        private boolean endCommand() {
            int c = cursor.look(0);
            if (c == NONE || c == ' ' || c == NEWLINE || c == ';' || c == '}') {
                return true;
            }
            return cursor.refuse(0);
        }

        private boolean openBlock() {
            if (depth == MOST_BLOCKS) {
                return cursor.refuse(0);
            }
            openBlocks[depth] = program.size - 1;
            depth++;
            cursor.at++;
            return true;
        }

        private boolean placeLabel() {
            if (command.addresses > 0 || command.inverted) {
                return cursor.refuse(0);
            }
            cursor.at++;
            int c = cursor.look(0);
            if (!isLetter(c) || behindLabel[c - 'a'] != NONE) {
                return cursor.refuse(0);
            }
            behindLabel[c - 'a'] = program.size;
            cursor.at++;
            return true;
        }

        private boolean readBranch() {
            cursor.at++;
            int c = cursor.look(0);
            if (isLetter(c)) {
                command.label = c - 'a';
                cursor.at++;
            }
            return true;
        }

        private static boolean isLetter(int c) {
            return c >= 'a' && c <= 'z';
        }

        private boolean readText() {
            cursor.at++;
            if (!cursor.pass(' ')) {
                return false;
            }
            command.textFrom = cursor.at;
            command.textTo = program.text.newlineFrom(cursor.at);
            cursor.at = command.textTo;
            return true;
        }

        private boolean readSubstitution() {
            cursor.at++;
            return cursor.pass('/') && patterns.read(command.pattern, program.items)
                    && readReplacement() && readFlags();
        }

        private boolean readReplacement() {
            command.textFrom = cursor.at;
            for (int step = 0; step <= SCRIPT_ROOM && cursor.look(0) != '/'; step++) {
                int c = cursor.look(0);
                if (c == NONE || c == NEWLINE) {
                    return cursor.refuse(0);
                }
                if (c == '\\') {
                    if (cursor.look(1) == NONE) {
                        return cursor.refuse(1);
                    }
                    if (!mayFollowBackslash(cursor.look(1))) {
                        return cursor.refuse(0);
                    }
                    cursor.at++;
                }
                cursor.at++;
            }
            command.textTo = cursor.at;
            return cursor.pass('/');
        }

        private boolean mayFollowBackslash(int c) {
            boolean group = c >= '1' && c <= '0' + command.pattern.groups;
            return group || c == '&' || c == '/' || c == '\\' || c == 'n';
        }

        /** A flag that was there already is left for endCommand to refuse. */
        private boolean readFlags() {
            for (int step = 0; step < 3; step++) {
                int c = cursor.look(0);
                if (c == 'g' && !command.all) {
                    command.all = true;
                } else if (c == 'p' && !command.print) {
                    command.print = true;
                } else if (c >= '1' && c <= '9' && command.digit == 0) {
                    command.digit = c - '0';
                } else {
                    return true;
                }
                cursor.at++;
            }
            return true;
        }

        private boolean readExchange() {
            cursor.at++;
            if (!cursor.pass('/')) {
                return false;
            }
            command.textFrom = cursor.at;
            for (int step = 0; step <= SCRIPT_ROOM && cursor.look(0) != '/'; step++) {
                if (!isExchangeable(cursor.look(0)) || wasExchanged(cursor.look(0))) {
                    return cursor.refuse(0);
                }
                cursor.at++;
            }
            command.textTo = cursor.at;
            cursor.at++;
            command.counterpart = cursor.at;
            for (int i = command.textFrom; i < command.textTo; i++) {
                if (cursor.look(0) == '/' || !isExchangeable(cursor.look(0))) {
                    return cursor.refuse(0);
                }
                cursor.at++;
            }
            return cursor.pass('/');
        }

        private static boolean isExchangeable(int c) {
            return c != NONE && c != NEWLINE && c != '\\';
        }

        private boolean wasExchanged(int c) {
            for (int i = command.textFrom; i < cursor.at; i++) {
                if (program.text.at(i) == c) {
                    return true;
                }
            }
            return false;
        }

        /** Only at the very end all labels are known; without one a branch ends the cycle. */
        private boolean joinLabels() {
            for (int k = 0; k < program.size; k++) {
                Command branch = program.commands[k];
                if (branch.kind == 'b' || branch.kind == 't') {
                    branch.target = branch.label == NONE ? program.size : behindLabel[branch.label];
                    if (branch.target == NONE) {
                        cursor.at = branch.at;
                        return cursor.refuse(0);
                    }
                }
            }
            return true;
        }
    }

    /** Finds the leftmost and, there, the longest match of a pattern in a text. */
    private static final class Matcher {
        int begin;
        int end;
        private Items items;
        private Pattern pattern;
        private Row text;
        private final int[] groupBegin = new int[MOST_GROUPS + 1];
        private final int[] groupEnd = new int[MOST_GROUPS + 1];
        private final int[] triedBegin = new int[MOST_GROUPS + 1];
        private final int[] triedEnd = new int[MOST_GROUPS + 1];

        boolean find(Items itsItems, Pattern itsPattern, Row itsText, int from) {
            items = itsItems;
            pattern = itsPattern;
            text = itsText;
            int last = pattern.atBeginning ? 0 : text.length;
            for (int at = from; at <= last; at++) {
                if (findLongest(at)) {
                    return true;
                }
            }
            return false;
        }

        int beginOf(int group) {
            return groupBegin[group];
        }

        int endOf(int group) {
            return groupEnd[group];
        }

        /** 0 and 1 tell the match's place and length, 2 and 3 those of group 1, and so on. */
        int told(int what) {
            int group = what / 2;
            if (group > pattern.groups) {
                return NONE;
            }
            int place = group == 0 ? begin : groupBegin[group];
            int behind = group == 0 ? end : groupEnd[group];
            return what % 2 == 0 ? place : behind - place;
        }

        /** Tries all that the two stars can take, the first one taking more and more. */
        private boolean findLongest(int at) {
            end = NONE;
            int head = walk(pattern.from, pattern.firstStar, at);
            for (int first = head; first >= 0 && first <= text.length; first++) {
                if (first > head && !repeats(pattern.firstStar, first - 1)) {
                    break;
                }
                int middle = walk(pattern.firstStar + 1, pattern.secondStar, first);
                for (int second = middle; second >= 0 && second <= text.length; second++) {
                    if (second > middle && !repeats(pattern.secondStar, second - 1)) {
                        break;
                    }
                    keepIfLongest(at, walk(pattern.secondStar + 1, pattern.to, second));
                }
            }
            return end != NONE;
        }

        /** Of two ways of one length the later one is kept: its first star takes more. */
        private void keepIfLongest(int at, int reached) {
            if (reached == NONE || reached < end || (pattern.atEnd && reached != text.length)) {
                return;
            }
            begin = at;
            end = reached;
            for (int g = 1; g <= pattern.groups; g++) {
                groupBegin[g] = triedBegin[g];
                groupEnd[g] = triedEnd[g];
            }
        }

        private boolean repeats(int star, int place) {
            return star < pattern.to && items.takes(star, text.chars[place]);
        }

        /** Where items that are no stars lead to from a place, or NONE if they do not fit. */
        private int walk(int fromItem, int toItem, int from) {
            int place = from;
            for (int i = fromItem; i < toItem; i++) {
                int group = items.group[i];
                switch (items.kind[i]) {
                    case Items.OPEN:
                        triedBegin[group] = place;
                        break;
                    case Items.CLOSE:
                        triedEnd[group] = place;
                        break;
                    case Items.SAME:
                        if (!standsAgain(group, place)) {
                            return NONE;
                        }
                        place += triedEnd[group] - triedBegin[group];
                        break;
                    default:
                        if (place >= text.length || !items.takes(i, text.chars[place])) {
                            return NONE;
                        }
                        place++;
                }
            }
            return place;
        }

        private boolean standsAgain(int group, int place) {
            int from = triedBegin[group];
            int length = triedEnd[group] - from;
            if (length > text.length - place) {
                return false;
            }
            for (int i = 0; i < length; i++) {
                if (text.chars[from + i] != text.chars[place + i]) {
                    return false;
                }
            }
            return true;
        }
    }

    /** Does runs. Its fields tell of the latest one, also of one that ended by an exception. */
    private static final class Editor {
        /** Far above 200 commands and 12 cycles, so that it only shows that the loop ends. */
        private static final int MOST_STEPS = 1000;

        final Row output = new Row(OUTPUT_ROOM);
        Row space = new Row(SPACE_ROOM);
        Row hold = new Row(SPACE_ROOM);
        int linesRead;
        int begun;
        int cycles;
        int replacements;
        private final Row appended = new Row(APPENDED_ROOM);
        private final Matcher matcher = new Matcher();
        /** Where a substitution is made, so that the space stays if there is no room. */
        private Row draft = new Row(SPACE_ROOM);
        private Program program;
        private Row[] lines;
        private int lineCount;
        private int next;
        private boolean over;
        /** Whether an s replaced something that no t has seen yet in this cycle. */
        private boolean replaced;
        /** Whether the range that was looked at last ended with that look. */
        private boolean rangeEnds;

        void edit(Program itsProgram, Row[] itsLines, int itsLineCount) {
            program = itsProgram;
            lines = itsLines;
            lineCount = itsLineCount;
            begin();
            for (int step = 0; step < MOST_STEPS && !over; step++) {
                if (next >= program.size) {
                    endCycle(true);
                    continue;
                }
                if (begun == MOST_BEGUN) {
                    throw new ArithmeticException();
                }
                begun++;
                Command command = program.commands[next];
                next++;
                if (isDone(command)) {
                    perform(command);
                } else if (command.kind == '{') {
                    next = command.target;
                }
            }
        }

        private void begin() {
            output.empty();
            space.empty();
            hold.empty();
            appended.empty();
            linesRead = 0;
            begun = 0;
            cycles = 0;
            replacements = 0;
            over = false;
            for (int k = 0; k < program.size; k++) {
                program.commands[k].inRange = false;
            }
            beginLine();
        }

        private void beginLine() {
            if (linesRead == lineCount) {
                over = true;
                return;
            }
            space.empty();
            readLine();
            beginCycle();
        }

        private void beginCycle() {
            cycles++;
            replaced = false;
            next = 0;
        }

        /** The next line, which must be there, comes to the end of the space. */
        private void readLine() {
            Row read = lines[linesRead];
            space.addPart(read, 0, read.length);
            linesRead++;
        }

        private void endCycle(boolean spaceTold) {
            if (spaceTold) {
                tell(space, 0, space.length);
            }
            tellAppended();
            beginLine();
        }

        private void quit() {
            tell(space, 0, space.length);
            tellAppended();
            over = true;
        }

        private void tell(Row text, int from, int to) {
            if (!output.hasRoom(to - from + 1)) {
                throw new IndexOutOfBoundsException();
            }
            output.addPart(text, from, to);
            output.add(NEWLINE);
        }

        /** Text by text, so that those which find room come out before one that does not. */
        private void tellAppended() {
            int from = 0;
            for (int i = 0; i < appended.length; i++) {
                if (appended.chars[i] == NEWLINE) {
                    tell(appended, from, i);
                    from = i + 1;
                }
            }
            appended.empty();
        }

        private boolean isDone(Command command) {
            boolean chosen = true;
            if (command.addresses == 1) {
                chosen = fits(command.first);
            } else if (command.addresses == 2 && command.inRange) {
                rangeEnds = isReached(command.second) || fits(command.second);
                command.inRange = !rangeEnds;
            } else if (command.addresses == 2) {
                chosen = fits(command.first);
                rangeEnds = isReached(command.second);
                command.inRange = chosen && !rangeEnds;
            }
            return chosen != command.inverted;
        }

        private boolean isReached(Address address) {
            return address.kind == Address.NUMBER && linesRead >= address.number;
        }

        private boolean fits(Address address) {
            switch (address.kind) {
                case Address.NUMBER: return linesRead == address.number;
                case Address.LAST: return linesRead == lineCount;
                default: return matcher.find(program.items, address.pattern, space, 0);
            }
        }

        private void perform(Command command) {
            switch (command.kind) {
                case 'b': next = command.target; break;
                case 't': branchIfReplaced(command); break;
                case 's': substitute(command); break;
                case 'y': exchange(command); break;
                case 'a': append(command); break;
                case 'i': tell(program.text, command.textFrom, command.textTo); break;
                case 'c': change(command); break;
                case 'd': endCycle(false); break;
                case 'D': deleteFirst(); break;
                case 'p': tell(space, 0, space.length); break;
                case 'P': tell(space, 0, space.newlineFrom(0)); break;
                case 'n': replaceByNext(); break;
                case 'N': joinNext(); break;
                case 'h': copy(space, hold); break;
                case 'H': join(space, hold); break;
                case 'g': copy(hold, space); break;
                case 'G': join(hold, space); break;
                case 'x': swap(); break;
                case '=': tellNumber(); break;
                case 'q': quit(); break;
                default: // { goes on with its block, a label with what is behind it
            }
        }

        private void branchIfReplaced(Command command) {
            if (replaced) {
                replaced = false;
                next = command.target;
            }
        }

        private void append(Command command) {
            if (!appended.hasRoom(command.textTo - command.textFrom + 1)) {
                throw new IndexOutOfBoundsException();
            }
            appended.addPart(program.text, command.textFrom, command.textTo);
            appended.add(NEWLINE);
        }

        private void change(Command command) {
            space.empty();
            if (command.addresses < 2 || command.inverted || rangeEnds) {
                tell(program.text, command.textFrom, command.textTo);
            }
            endCycle(false);
        }

        private void deleteFirst() {
            int newline = space.newlineFrom(0);
            if (newline == space.length) {
                endCycle(false);
                return;
            }
            tellAppended();
            space.dropFirst(newline + 1);
            beginCycle();
        }

        private void replaceByNext() {
            if (linesRead == lineCount) {
                quit();
                return;
            }
            tell(space, 0, space.length);
            tellAppended();
            space.empty();
            readLine();
        }

        private void joinNext() {
            if (linesRead == lineCount) {
                quit();
                return;
            }
            if (!space.hasRoom(1 + lines[linesRead].length)) {
                throw new IndexOutOfBoundsException();
            }
            tellAppended();
            space.add(NEWLINE);
            readLine();
        }

        private void copy(Row from, Row to) {
            to.empty();
            to.addPart(from, 0, from.length);
        }

        private void join(Row from, Row to) {
            if (!to.hasRoom(1 + from.length)) {
                throw new IndexOutOfBoundsException();
            }
            to.add(NEWLINE);
            to.addPart(from, 0, from.length);
        }

        private void swap() {
            Row before = space;
            space = hold;
            hold = before;
        }

        private void tellNumber() {
            draft.empty();
            if (linesRead >= 10) {
                draft.add('0' + linesRead / 10);
            }
            draft.add('0' + linesRead % 10);
            tell(draft, 0, draft.length);
        }

        private void exchange(Command command) {
            for (int i = 0; i < space.length; i++) {
                int place = command.textFrom;
                while (place < command.textTo && program.text.at(place) != space.chars[i]) {
                    place++;
                }
                if (place < command.textTo) {
                    space.chars[i] = (char) program.text.at(command.counterpart + place - command.textFrom);
                }
            }
        }

        private void substitute(Command command) {
            draft.empty();
            int seen = 0;
            int made = 0;
            int copied = 0;
            int endBefore = NONE;
            int from = 0;
            for (int turn = 0; turn <= SPACE_ROOM && from <= space.length; turn++) {
                boolean enough = made > 0 && !command.all;
                if (enough || !matcher.find(program.items, command.pattern, space, from)) {
                    break;
                }
                boolean empty = matcher.begin == matcher.end;
                if (!empty || matcher.begin != endBefore) {
                    seen++;
                    if (command.replaces(seen)) {
                        draftPart(copied, matcher.begin);
                        draftReplacement(command);
                        copied = matcher.end;
                        made++;
                    }
                }
                endBefore = matcher.end;
                from = empty ? matcher.end + 1 : matcher.end;
            }
            draftPart(copied, space.length);
            if (made > 0) {
                takeDraft(command, made);
            }
        }

        private void takeDraft(Command command, int made) {
            if (command.print && !output.hasRoom(draft.length + 1)) {
                throw new IndexOutOfBoundsException();
            }
            Row before = space;
            space = draft;
            draft = before;
            replacements += made;
            replaced = true;
            if (command.print) {
                tell(space, 0, space.length);
            }
        }

        private void draftPart(int from, int to) {
            if (!draft.hasRoom(to - from)) {
                throw new IndexOutOfBoundsException();
            }
            draft.addPart(space, from, to);
        }

        private void draftReplacement(Command command) {
            for (int i = command.textFrom; i < command.textTo; i++) {
                int c = program.text.at(i);
                if (c == '&') {
                    draftPart(matcher.begin, matcher.end);
                    continue;
                }
                if (c == '\\') {
                    i++;
                    c = program.text.at(i);
                    if (c >= '1' && c <= '3') {
                        draftPart(matcher.beginOf(c - '0'), matcher.endOf(c - '0'));
                        continue;
                    }
                    c = c == 'n' ? NEWLINE : c;
                }
                draftCharacter(c);
            }
        }

        private void draftCharacter(int c) {
            if (!draft.hasRoom(1)) {
                throw new IndexOutOfBoundsException();
            }
            draft.add(c);
        }
    }
}
