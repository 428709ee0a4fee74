import java.util.Arrays;

/**
 * An array calculator: lines come on a tape, are worked out from the right, and leave a RESULT
 * and names of values and functions behind. The words in capitals are those of the document.
 */
public final class ArrayCalculator {
    public static final int NONE = -1;

    private static final int NUMBER = 0;
    private static final int SIGN = 1;
    private static final int BITS = 2;
    private static final int SIGNS = 3;
    private static final int INTS = 4;
    private static final int LONGS = 5;
    private static final int TABLE = 6;
    private static final int NEST = 7;
    /** Not a KIND of the document: what an act gives instead of a value, num being the error. */
    private static final int FAULT = 8;

    private static final int MOST_ONES = 120;
    private static final int MOST_LINES = 12;
    private static final int MOST_NUMBERS = 144;
    private static final int MOST_VALUES = 24;
    private static final int MOST_LEVELS = 5;
    private static final int MOST_SIZE = 1000;
    private static final int MOST_NAMES = 40;
    private static final int MOST_LETTERS = 8;
    private static final int MOST_DIGITS = 18;
    private static final int MOST_TEXT = 60;
    private static final int MOST_OPEN = 12;
    private static final int MOST_ADVERBS = 4;
    private static final int MOST_CALLS = 10;
    private static final int MOST_KEPT = 4;
    private static final int MOST_PRINTED = 400;
    private static final int MOST_BYTES = 200;
    private static final int FED_BYTES = 20;
    private static final int ALL_WORK = 500000;
    private static final int NOT_DONE = -100;

    private static final int BAD_LINE = 1;
    private static final int NO_VALUE = 2;
    private static final int WRONG_SORT = 3;
    private static final int WRONG_COUNT = 4;
    private static final int WRONG_NUMBER = 5;
    private static final int BEYOND = 6;
    private static final int NO_PLACE = 7;
    private static final int TOO_MANY = 8;
    private static final int TOO_DEEP = 9;
    private static final int NO_WORK = 10;

    /** The sorts of tokens. */
    private static final int END = 0;
    private static final int DIGITS = 1;
    private static final int TEXT = 2;
    private static final int NAME = 3;
    private static final int FUNCTION = 4;
    private static final int VERB = 5;
    private static final int ADVERB = 6;
    private static final int MARK = 7;

    private static final String VERBS = "+-*%&|<>=~!,#?@$^._";
    private static final String MARKS = ";()[]{}:";

    /** Names are packed with five bits a letter, the first one lowest, so x is 24 and y is 25. */
    private static final int LETTER_BITS = 5;
    private static final long NAME_X = 24;
    private static final long NAME_Y = 25;

    /** What an Op does. */
    private static final int PASS = 0;
    private static final int PUSH = 1;
    private static final int LOOK_UP = 2;
    private static final int WITH_ONE = 3;
    private static final int WITH_TWO = 4;
    private static final int GATHER = 5;
    private static final int CHOOSE = 6;
    private static final int AMEND = 7;

    /** What a line is. */
    private static final int PLAIN_LINE = 0;
    private static final int NAMING_LINE = 1;
    private static final int TELLING_LINE = 2;
    private static final int AMENDING_LINE = 3;

    private static final long[] NO_NUMBERS = {};

    private final int[] tape = new int[MOST_BYTES];
    private int fed;
    private final Names known = new Names();
    private final Tokens tokens = new Tokens(tape, known);
    private final Reader reader = new Reader(tokens);
    private final Names[] kept = new Names[MOST_KEPT];
    private final Machine machine = new Machine(known);
    private final Printer printer = new Printer(MOST_PRINTED);
    private Value result = Value.number(0);
    private Value pointed = result;
    private int lineError;
    private int linePlace = NONE;
    private int lineWork;

    public ArrayCalculator() {
    }

    public int feed(int a, int b, int c, int d, int e) {
        if (fed + FED_BYTES > MOST_BYTES) {
            return NONE;
        }
        putBytes(a);
        putBytes(b);
        putBytes(c);
        putBytes(d);
        putBytes(e);
        return fed;
    }

    private void putBytes(int four) {
        for (int shift = 24; shift >= 0; shift -= 8) {
            if (fed < tape.length) {
                tape[fed] = (four >>> shift) & 255;
                fed++;
            }
        }
    }

    public int line(int n) {
        if (n < 0 || n > fed) {
            return NOT_DONE;
        }
        fed = 0;
        int before = machine.workLeft();
        tokens.split(n);
        if (!reader.read()) {
            endLine(BAD_LINE, reader.wrongPlace());
        } else if (isOneNameMore()) {
            endLine(TOO_MANY, tokens.placeAt(0));
        } else if (reader.sort() == TELLING_LINE) {
            known.tell(reader.named(), reader.first());
            endLine(0, NONE);
        } else {
            takeIn(machine.run(reader.first()));
        }
        lineWork = before - machine.workLeft();
        pointed = result;
        return -lineError;
    }

    private void endLine(int error, int place) {
        lineError = error;
        linePlace = place;
    }

    /** Whether the line gives something to a NAME that would be one more than may be known. */
    private boolean isOneNameMore() {
        boolean gives = reader.sort() == NAMING_LINE || reader.sort() == TELLING_LINE;
        return gives && known.full() && !known.knows(reader.named());
    }

    /** Takes in what the line came to; null: an error. */
    private void takeIn(Value made) {
        if (made == null) {
            endLine(machine.error(), machine.errorPlace());
            return;
        }
        if (reader.sort() != PLAIN_LINE) {
            known.give(reader.named(), made);
        }
        result = made;
        endLine(0, NONE);
    }

    public int told(int what) {
        switch (what) {
            case 0:
                return lineError;
            case 1:
                return linePlace;
            case 2:
                return lineWork;
            case 3:
                return machine.workLeft();
            default:
                return NONE;
        }
    }

    public boolean point(int what, int k) {
        Value to = null;
        if (what == 0) {
            to = result;
        } else if (what == 1) {
            to = known.valueAt(k);
        } else if (what == 2 && (pointed.form == NEST || pointed.form == TABLE) && k >= 0 && k < pointed.many) {
            to = pointed.itemAt(k);
        }
        if (to == null) {
            return false;
        }
        pointed = to;
        return true;
    }

    public int kind() {
        return pointed.form;
    }

    public int count(int what) {
        if (what == 0) {
            return pointed.many;
        }
        if (what == 1 && pointed.form == TABLE) {
            return pointed.cols;
        }
        return what == 2 ? pointed.levels : NONE;
    }

    public long item(int k) {
        if (pointed.isOne()) {
            return k == 0 ? pointed.num : 0;
        }
        return pointed.numberAt(k);
    }

    public int print() {
        printer.clear();
        printer.put(pointed);
        return printer.length();
    }

    public int octet(int k) {
        return printer.byteAt(k);
    }

    public boolean keep(int k) {
        if (k < 0 || k >= kept.length) {
            return false;
        }
        if (kept[k] == null) {
            kept[k] = new Names();
        }
        kept[k].copyOf(known);
        return true;
    }

    public boolean back(int k) {
        if (k < 0 || k >= kept.length || kept[k] == null) {
            return false;
        }
        known.copyOf(kept[k]);
        return true;
    }

    public int names(int what) {
        return known.howMany(what);
    }

    public int letter(int what, int i, int k) {
        if (k < 0 || k >= MOST_LETTERS) {
            return NONE;
        }
        int letter = (int) (known.keyAt(what, i) >>> (k * LETTER_BITS)) & 31;
        return letter == 0 ? NONE : 'a' - 1 + letter;
    }

    private static boolean isDigit(long c) {
        return c >= '0' && c <= '9';
    }

    private static boolean isLetter(int c) {
        return c >= 'a' && c <= 'z';
    }

    private static boolean fitsInt(long n) {
        return n >= Integer.MIN_VALUE && n <= Integer.MAX_VALUE;
    }

    /** A value of any sort; it never changes, so values may share their arrays and one another. */
    static final class Value {
        final int form;
        /** The number of ONE, and the error of a FAULT. */
        final long num;
        /** Where the ONEs of a ROW stand, or the numbers of a TABLE line by line. */
        final long[] row;
        /** Where the values of a NEST stand; null if there are none. */
        final Value[] vals;
        /** Where its own begin in row or vals; what stands around them is of other values. */
        final int from;
        final int many;
        /** The columns of a TABLE; 0 for others. */
        final int cols;
        final int size;
        final int levels;

        private Value(int form, long num, long[] row, int from, int many, int cols) {
            this.form = form;
            this.num = num;
            this.row = row;
            this.vals = null;
            this.from = from;
            this.many = many;
            this.cols = cols;
            if (form == TABLE) {
                size = 1 + many * cols;
                levels = 2;
            } else if (form >= BITS && form <= LONGS) {
                size = 1 + many;
                levels = 1;
            } else {
                size = 1;
                levels = 0;
            }
        }

        private Value(Value[] vals, int from, int many) {
            this.form = NEST;
            this.num = 0;
            this.row = NO_NUMBERS;
            this.vals = vals;
            this.from = from;
            this.many = many;
            this.cols = 0;
            int sized = 1;
            int levelled = 0;
            for (int i = from; vals != null && i < from + many && i < vals.length; i++) {
                sized += vals[i].size;
                levelled = vals[i].levels > levelled ? vals[i].levels : levelled;
            }
            size = sized;
            levels = levelled + 1;
        }

        static Value number(long n) {
            return new Value(NUMBER, n, NO_NUMBERS, 0, 1, 0);
        }

        static Value sign(long n) {
            return new Value(SIGN, n, NO_NUMBERS, 0, 1, 0);
        }

        static Value row(int form, long[] row) {
            return new Value(form, 0, row, 0, row.length, 0);
        }

        static Value rowAt(int form, long[] row, int from, int many) {
            return new Value(form, 0, row, from, many, 0);
        }

        static Value numberRow(long[] row) {
            return new Value(formOf(row, 0, row.length), 0, row, 0, row.length, 0);
        }

        static Value numberRowAt(long[] row, int from, int many) {
            return new Value(formOf(row, from, many), 0, row, from, many, 0);
        }

        private static int formOf(long[] row, int from, int many) {
            for (int i = from; i < from + many && i < row.length; i++) {
                if (row[i] < Integer.MIN_VALUE || row[i] > Integer.MAX_VALUE) {
                    return LONGS;
                }
            }
            return INTS;
        }

        static Value table(long[] numbers, int lines, int cols) {
            return new Value(TABLE, 0, numbers, 0, lines, cols);
        }

        static Value tableAt(long[] numbers, int from, int lines, int cols) {
            return new Value(TABLE, 0, numbers, from, lines, cols);
        }

        static Value nest(Value[] vals) {
            return new Value(vals, 0, vals.length);
        }

        static Value nestAt(Value[] vals, int from, int many) {
            return new Value(vals, from, many);
        }

        static Value fault(int error) {
            return new Value(FAULT, error, NO_NUMBERS, 0, 0, 0);
        }

        boolean isOne() {
            return form == NUMBER || form == SIGN;
        }

        boolean isRow() {
            return form >= BITS && form <= LONGS;
        }

        /** ONE SIGN or a row of SIGNS. */
        boolean ofSigns() {
            return form == SIGN || form == SIGNS;
        }

        /** ONE NUMBER or a ROW of numbers. */
        boolean ofNumbers() {
            return form == NUMBER || (isRow() && form != SIGNS);
        }

        boolean isFault() {
            return form == FAULT;
        }

        /** The item at place i; ONE is its own item at any place, as acts spread it over others. */
        Value itemAt(int i) {
            if (form == NEST) {
                return valueAt(i);
            }
            if (isOne() || i < 0 || i >= many) {
                return this;
            }
            if (form == TABLE) {
                return new Value(INTS, 0, row, from + i * cols, cols, 0);
            }
            return new Value(form == SIGNS ? SIGN : NUMBER, numberAt(i), NO_NUMBERS, 0, 1, 0);
        }

        /** Of a NEST its value at place i; others are spread over the NEST that they are paired with. */
        Value valueAt(int i) {
            return vals != null && i >= 0 && i < many && from + i < vals.length ? vals[from + i] : this;
        }

        /** The number at place i of a ROW or TABLE; that of ONE at any place. */
        long numberAt(int i) {
            return i >= 0 && i < size - 1 && from + i < row.length ? row[from + i] : num;
        }

        /** How many numbers or bytes it holds by itself, those of a NEST's values left out. */
        int numbers() {
            if (form == NEST) {
                return 0;
            }
            return form == NUMBER || form == SIGN ? 1 : size - 1;
        }

        /** The items at the first n of the places: as ROW of its KIND, TABLE or NEST. */
        Value pick(int[] places, int n) {
            if (form == NEST) {
                return n > MOST_VALUES ? fault(TOO_MANY) : pickValues(places, n);
            }
            if (form == TABLE && (n == 0 || n > MOST_LINES)) {
                return fault(n == 0 ? WRONG_COUNT : TOO_MANY);
            }
            if (form == TABLE) {
                return pickLines(places, n);
            }
            int formPicked = form;
            if (form == SIGN) {
                formPicked = SIGNS;
            } else if (form == NUMBER) {
                formPicked = fitsInt(num) ? INTS : LONGS;
            }
            long[] picked = new long[n];
            for (int i = 0; i < n && i < places.length; i++) {
                picked[i] = numberAt(places[i]);
            }
            return row(formPicked, picked);
        }

        private Value pickValues(int[] places, int n) {
            Value[] picked = new Value[n];
            for (int i = 0; i < n && i < places.length; i++) {
                picked[i] = valueAt(places[i]);
            }
            return new Value(picked, 0, n);
        }

        private Value pickLines(int[] places, int n) {
            long[] picked = new long[n * cols];
            for (int r = 0; r < n && r < places.length; r++) {
                for (int c = 0; c < cols; c++) {
                    picked[r * cols + c] = numberAt(places[r] * cols + c);
                }
            }
            return new Value(TABLE, 0, picked, 0, n, cols);
        }

        private static boolean same(Value a, Value b) {
            if (a.isOne() || b.isOne()) {
                return a.form == b.form && a.num == b.num;
            }
            if (a.many != b.many || a.cols != b.cols || a.ofSigns() != b.ofSigns()) {
                return false;
            }
            if (a.form != NEST || b.form != NEST) {
                return a.form != NEST && b.form != NEST && sameRun(a, 0, b, 0, a.numbers());
            }
            for (int i = 0; i < a.many; i++) {
                if (!same(a.valueAt(i), b.valueAt(i))) {
                    return false;
                }
            }
            return true;
        }

        /** Whether n numbers of a, from one on, and of b, from a start on, are the same. */
        private static boolean sameRun(Value a, int from, Value b, int start, int n) {
            int i = a.from + from;
            int j = b.from + start;
            if (from < 0 || start < 0) {
                return false;
            }
            for (int k = 0; k < n; k++) {
                if (i + k >= a.row.length || j + k >= b.row.length || a.row[i + k] != b.row[j + k]) {
                    return false;
                }
            }
            return true;
        }

        /** Whether item i of a is SAME as item j of b, without making those items. */
        static boolean sameItems(Value a, int i, Value b, int j) {
            if (a.form == NEST) {
                Value value = a.itemAt(i);
                return b.form == NEST ? same(b.itemAt(j), value) : sameFlatItem(b, j, value);
            }
            if (b.form == NEST) {
                return sameFlatItem(a, i, b.itemAt(j));
            }
            if (a.form == TABLE || b.form == TABLE) {
                return a.cols == b.cols && sameRun(a, i * a.cols, b, j * b.cols, a.cols);
            }
            return a.ofSigns() == b.ofSigns() && a.numberAt(i) == b.numberAt(j);
        }

        /** Whether item i of a is SAME as v, without making that item. */
        static boolean sameItem(Value a, int i, Value v) {
            return a.form == NEST ? same(a.itemAt(i), v) : sameFlatItem(a, i, v);
        }

        /** The same, where a is no NEST. */
        private static boolean sameFlatItem(Value a, int i, Value v) {
            if (a.form == TABLE) {
                return v.isRow() && v.form != SIGNS && v.many == a.cols && sameRun(a, i * a.cols, v, 0, a.cols);
            }
            return v.isOne() && a.ofSigns() == v.ofSigns() && a.numberAt(i) == v.num;
        }
    }

    /** The tokens of a line; the last one is END, at the line's end or where the reading stops. */
    static final class Tokens {
        private final int[] sorts = new int[MOST_BYTES + 1];
        private final int[] places = new int[MOST_BYTES + 1];
        private final long[] data = new long[MOST_BYTES + 1];
        private int made;
        private int lastEnd;
        private final int[] bytes;
        private final Names known;
        private int length;
        private boolean good;

        Tokens(int[] tape, Names known) {
            this.bytes = tape;
            this.known = known;
        }

        void split(int n) {
            length = Math.min(n, bytes.length);
            made = 0;
            lastEnd = 0;
            good = true;
            int at = 0;
            for (int turn = 0; turn < length && at < length && good; turn++) {
                if (bytes[at] == ' ') {
                    at++;
                } else if (next(at)) {
                    at = lastEnd;
                } else {
                    good = false;
                }
            }
            add(END, at, 0, at);
        }

        /** Whether all bytes of the line are in tokens. */
        boolean whole() {
            return good;
        }

        int sortAt(int i) {
            return i >= 0 && i < made ? sorts[i] : END;
        }

        int placeAt(int i) {
            return i >= 0 && i < made ? places[i] : length;
        }

        long dataAt(int i) {
            return i >= 0 && i < made ? data[i] : 0;
        }

        boolean isMark(int i, int mark) {
            return i >= 0 && i < made && sorts[i] == MARK && data[i] == mark;
        }

        boolean isName(int i) {
            return sortAt(i) == NAME || sortAt(i) == FUNCTION;
        }

        /** Where token i is a TEXT: its signs. */
        Value textAt(int i) {
            int from = placeAt(i) + 1;
            int n = (int) Math.max(0, Math.min(dataAt(i), length - from));
            if (n == 1) {
                return Value.sign(byteAt(from));
            }
            long[] signs = new long[n];
            for (int k = 0; k < n; k++) {
                signs[k] = byteAt(from + k);
            }
            return Value.row(SIGNS, signs);
        }

        private int byteAt(int at) {
            return at >= 0 && at < length ? bytes[at] : NONE;
        }

        private void add(int sort, int place, long datum, int end) {
            if (made < sorts.length) {
                sorts[made] = sort;
                places[made] = place;
                data[made] = datum;
                made++;
            }
            lastEnd = end;
        }

        /** Adds the token at a byte that is no blank; false if there is none. */
        private boolean next(int at) {
            int c = byteAt(at);
            int behind = made > 0 && lastEnd == at ? sortAt(made - 1) : END;
            if (isDigit(c) || isLetter(c)) {
                if (behind == DIGITS || behind == NAME || behind == FUNCTION) {
                    return false;
                }
                if (isDigit(c)) {
                    addNumber(at, at);
                } else {
                    addName(at);
                }
                return true;
            }
            if (c == '_' && isDigit(byteAt(at + 1))) {
                addNumber(at, at + 1);
                return true;
            }
            if (c == '\'' && behind != VERB && behind != ADVERB && behind != FUNCTION) {
                return addText(at);
            }
            int sort = sortOfByte(c);
            if (sort != END) {
                add(sort, at, c, at + 1);
            }
            return sort != END;
        }

        private static int sortOfByte(int c) {
            if (c < 0) {
                return END;
            }
            if (VERBS.indexOf((char) c) >= 0) {
                return VERB;
            }
            if (c == '/' || c == '\\' || c == '\'') {
                return ADVERB;
            }
            return MARKS.indexOf((char) c) >= 0 ? MARK : END;
        }

        private void addNumber(int place, int from) {
            long number = 0;
            int end = from;
            for (; end < from + MOST_DIGITS && isDigit(byteAt(end)); end++) {
                number = number * 10 + (byteAt(end) - '0');
            }
            add(DIGITS, place, from == place ? number : -number, end);
        }

        private void addName(int place) {
            long key = 0;
            int end = place;
            for (; end < place + MOST_LETTERS && isLetter(byteAt(end)); end++) {
                key |= (long) (byteAt(end) - 'a' + 1) << ((end - place) * LETTER_BITS);
            }
            add(known.functionOf(key) != null || isTold(key) ? FUNCTION : NAME, place, key, end);
        }

        /** From its { on, a line that tells a function knows the NAME as that function's. */
        private boolean isTold(long key) {
            return made > 2 && isName(0) && dataAt(0) == key && isMark(1, ':') && isMark(2, '{')
                && key != NAME_X && key != NAME_Y;
        }

        private boolean addText(int place) {
            int end = place + 1;
            while (end <= place + MOST_TEXT && isTextByte(byteAt(end))) {
                end++;
            }
            if (end == place + 1 || byteAt(end) != '\'') {
                return false;
            }
            add(TEXT, place, end - place - 1, end + 1);
            return true;
        }

        private static boolean isTextByte(int c) {
            return c >= ' ' && c <= '~' && c != '\'';
        }
    }

    /** One step of what a line or function does; each knows the step that comes behind it. */
    static final class Op {
        int deed;
        int place;
        /** The VERB's byte; 0 where a function is called. */
        int verb;
        /** The NAME that is looked up or called. */
        long name;
        /** The ADVERBS' bytes, the first one lowest. */
        int adverbs;
        int adverbsMany;
        /** How many values are GATHERED. */
        int parts;
        Value value;
        Op next;
        /** Where a choice goes on if what is asked is 0. */
        Op other;

        Op(int deed, int place, Op next) {
            this.deed = deed;
            this.place = place;
            this.next = next;
        }

        int adverbAt(int level) {
            return (adverbs >>> (8 * (level - 1))) & 255;
        }
    }

    /**
     * Reads a line into Ops. As lines are worked out from the right, each method is given the Op
     * that comes behind what it reads, and answers the first Op of it (null: the line is wrong).
     */
    static final class Reader {
        private final Tokens tokens;
        private int at;
        private int wrong;
        private int lineSort;
        private long lineName;
        private Op start;
        /** The Op that passes the latest noun on; it becomes the act that the noun stands ahead of. */
        private Op tail;

        Reader(Tokens tokens) {
            this.tokens = tokens;
            tail = new Op(PASS, 0, null);
        }

        int wrongPlace() {
            return wrong;
        }

        int sort() {
            return lineSort;
        }

        long named() {
            return lineName;
        }

        Op first() {
            return start;
        }

        boolean read() {
            at = 0;
            lineName = tokens.dataAt(0);
            lineSort = tokens.isName(0) ? sortOfLine() : PLAIN_LINE;
            boolean own = lineName == NAME_X || lineName == NAME_Y;
            if (lineSort != PLAIN_LINE && (own || (lineSort == AMENDING_LINE && tokens.sortAt(0) == FUNCTION))) {
                start = fail();
                return false;
            }
            Op then = null;
            if (lineSort == AMENDING_LINE) {
                at = 3;
                then = expr(amendment(), 1);
                if (then == null || !skip(')') || !skip(':')) {
                    return false;
                }
            } else if (lineSort != PLAIN_LINE) {
                at = lineSort == TELLING_LINE ? 3 : 2;
            }
            start = expr(then, lineSort == TELLING_LINE ? 1 : 0);
            if (start == null || (lineSort == TELLING_LINE && !skip('}'))) {
                return false;
            }
            // Where a byte is no token, END stands at it, and is no end of the line.
            if (tokens.sortAt(at) != END || !tokens.whole()) {
                start = fail();
            }
            return start != null;
        }

        private Op fail() {
            wrong = tokens.placeAt(at);
            return null;
        }

        private boolean skip(int mark) {
            if (tokens.isMark(at, mark)) {
                at++;
                return true;
            }
            wrong = tokens.placeAt(at);
            return false;
        }

        /** What a line that begins with a NAME is. */
        private int sortOfLine() {
            if (tokens.isMark(1, ':')) {
                return tokens.isMark(2, '{') ? TELLING_LINE : NAMING_LINE;
            }
            return isAmending() ? AMENDING_LINE : PLAIN_LINE;
        }

        /** What comes behind the last expr and the places of a line of the second form. */
        private Op amendment() {
            Op name = new Op(LOOK_UP, tokens.placeAt(0), new Op(AMEND, tokens.placeAt(1), null));
            name.name = lineName;
            return name;
        }

        /** Whether the line is one of the second form: NAME @ ( .. ) : with any marks between. */
        private boolean isAmending() {
            if (tokens.sortAt(1) != VERB || tokens.dataAt(1) != '@' || !tokens.isMark(2, '(')) {
                return false;
            }
            int open = 0;
            for (int i = 2; tokens.sortAt(i) != END && i <= MOST_BYTES; i++) {
                if (tokens.isMark(i, '(') || tokens.isMark(i, '[') || tokens.isMark(i, '{')) {
                    open++;
                } else if (tokens.isMark(i, ')') || tokens.isMark(i, ']') || tokens.isMark(i, '}')) {
                    open--;
                }
                if (open == 0) {
                    return tokens.isMark(i + 1, ':');
                }
            }
            return false;
        }

        private Op expr(Op behind, int open) {
            Op then = behind;
            for (int turn = 0; turn <= MOST_BYTES; turn++) {
                if (isDoes()) {
                    Op act = new Op(WITH_ONE, 0, then);
                    readDoes(act);
                    then = act;
                } else {
                    Op noun = noun(new Op(PASS, 0, then), open);
                    if (noun == null || !isDoes()) {
                        return noun;
                    }
                    tail.deed = WITH_TWO;
                    readDoes(tail);
                    then = noun;
                }
            }
            return fail();
        }

        private boolean isDoes() {
            return tokens.sortAt(at) == VERB || tokens.sortAt(at) == FUNCTION;
        }

        private void readDoes(Op act) {
            act.place = tokens.placeAt(at);
            if (tokens.sortAt(at) == VERB) {
                act.verb = (int) tokens.dataAt(at);
            } else {
                act.name = tokens.dataAt(at);
            }
            at++;
            for (int i = 0; i < MOST_ADVERBS && tokens.sortAt(at) == ADVERB; i++) {
                act.adverbs |= (int) tokens.dataAt(at) << (8 * i);
                act.adverbsMany++;
                at++;
            }
        }

        /** A noun with all its @( ) behind it; hook is the Op that comes behind its value. */
        private Op noun(Op hook, int open) {
            Op last = hook;
            Op noun = base(hook, open);
            for (int turn = 0; turn <= MOST_BYTES && noun != null && isIndexed(); turn++) {
                Op behind = new Op(PASS, 0, last.next);
                last.deed = WITH_TWO;
                last.verb = '@';
                last.place = tokens.placeAt(at);
                last.next = behind;
                last = behind;
                at++;
                noun = indexed(noun, open);
            }
            tail = last;
            return noun;
        }

        private boolean isIndexed() {
            return tokens.sortAt(at) == VERB && tokens.dataAt(at) == '@' && tokens.isMark(at + 1, '(');
        }

        private Op indexed(Op noun, int open) {
            if (open >= MOST_OPEN) {
                return fail();
            }
            at++;
            Op index = expr(noun, open + 1);
            return index != null && skip(')') ? index : null;
        }

        private Op base(Op behind, int open) {
            int place = tokens.placeAt(at);
            int sort = tokens.sortAt(at);
            if (sort == DIGITS) {
                return numbers(behind);
            }
            if (sort == TEXT) {
                Op push = new Op(PUSH, place, behind);
                push.value = tokens.textAt(at);
                at++;
                return push;
            }
            if (sort == NAME) {
                Op name = new Op(LOOK_UP, place, behind);
                name.name = tokens.dataAt(at);
                at++;
                return name;
            }
            if (open < MOST_OPEN && tokens.isMark(at, '(')) {
                return group(behind, open + 1);
            }
            if (open < MOST_OPEN && tokens.isMark(at, '[')) {
                return choice(behind, open + 1);
            }
            return fail();
        }

        private Op numbers(Op behind) {
            int from = at;
            while (at <= MOST_BYTES && tokens.sortAt(at) == DIGITS) {
                at++;
            }
            Op push = new Op(PUSH, tokens.placeAt(from), behind);
            if (at - from == 1) {
                push.value = Value.number(tokens.dataAt(from));
                return push;
            }
            long[] row = new long[at - from];
            for (int i = 0; i < row.length; i++) {
                row[i] = tokens.dataAt(from + i);
            }
            push.value = Value.numberRow(row);
            return push;
        }

        private Op group(Op behind, int open) {
            Op gather = new Op(GATHER, tokens.placeAt(at), behind);
            at++;
            if (tokens.isMark(at, ')')) {
                at++;
                return gather;
            }
            Op first = gather;
            for (int turn = 0; turn <= MOST_BYTES; turn++) {
                first = expr(first, open);
                if (first == null) {
                    return null;
                }
                gather.parts++;
                if (!tokens.isMark(at, ';')) {
                    break;
                }
                at++;
            }
            if (gather.parts == 1) {
                gather.deed = PASS;
            }
            return skip(')') ? first : null;
        }

        private Op choice(Op behind, int open) {
            Op choose = new Op(CHOOSE, tokens.placeAt(at), null);
            at++;
            Op asked = expr(choose, open);
            if (asked == null || !skip(';')) {
                return null;
            }
            choose.next = expr(behind, open);
            if (choose.next == null || !skip(';')) {
                return null;
            }
            choose.other = expr(behind, open);
            return choose.other != null && skip(']') ? asked : null;
        }
    }

    /** Names of values and of functions, each in the order in which they came to stand for one. */
    static final class Names {
        private final long[] valueKeys = new long[MOST_NAMES];
        private final Value[] values = new Value[MOST_NAMES];
        private int valuesMany;
        private final long[] functionKeys = new long[MOST_NAMES];
        private final Op[] functions = new Op[MOST_NAMES];
        private int functionsMany;

        int howMany(int what) {
            if (what == 0) {
                return valuesMany;
            }
            return what == 1 ? functionsMany : NONE;
        }

        /** The packed letters of the i-th name; 0 if there is none. */
        long keyAt(int what, int i) {
            if (i < 0 || i >= howMany(what)) {
                return 0;
            }
            return what == 0 ? valueKeys[i] : functionKeys[i];
        }

        Value valueAt(int i) {
            return i >= 0 && i < valuesMany ? values[i] : null;
        }

        Value valueOf(long key) {
            return valueAt(find(valueKeys, valuesMany, key));
        }

        Op functionOf(long key) {
            int i = find(functionKeys, functionsMany, key);
            return i < functionsMany ? functions[i] : null;
        }

        boolean full() {
            return valuesMany + functionsMany >= MOST_NAMES;
        }

        boolean knows(long key) {
            return valueOf(key) != null || functionOf(key) != null;
        }

        void give(long key, Value value) {
            dropFunction(key);
            int i = find(valueKeys, valuesMany, key);
            if (i < MOST_NAMES) {
                valueKeys[i] = key;
                values[i] = value;
                valuesMany = Math.max(valuesMany, i + 1);
            }
        }

        void tell(long key, Op function) {
            dropValue(key);
            int i = find(functionKeys, functionsMany, key);
            if (i < MOST_NAMES) {
                functionKeys[i] = key;
                functions[i] = function;
                functionsMany = Math.max(functionsMany, i + 1);
            }
        }

        void copyOf(Names from) {
            valuesMany = from.valuesMany;
            functionsMany = from.functionsMany;
            for (int i = 0; i < MOST_NAMES; i++) {
                valueKeys[i] = from.valueKeys[i];
                values[i] = from.values[i];
                functionKeys[i] = from.functionKeys[i];
                functions[i] = from.functions[i];
            }
        }

        /** The key's place; how many there are if it isn't among them. */
        private static int find(long[] keys, int many, long key) {
            for (int i = 0; i < many; i++) {
                if (keys[i] == key) {
                    return i;
                }
            }
            return many;
        }

        private void dropValue(long key) {
            int from = find(valueKeys, valuesMany, key);
            if (from == valuesMany) {
                return;
            }
            for (int i = from; i + 1 < valuesMany; i++) {
                valueKeys[i] = valueKeys[i + 1];
                values[i] = values[i + 1];
            }
            valuesMany--;
        }

        private void dropFunction(long key) {
            int from = find(functionKeys, functionsMany, key);
            if (from == functionsMany) {
                return;
            }
            for (int i = from; i + 1 < functionsMany; i++) {
                functionKeys[i] = functionKeys[i + 1];
                functions[i] = functions[i + 1];
            }
            functionsMany--;
        }
    }

    /** What waits while a function is called or an ADVERB goes through items. */
    static final class Frame {
        /** How many ADVERBS are still to be done with the one that waits; 0: a call of a function. */
        int level;
        /** The Op whose ADVERB waits; of a call the Op that comes behind it. */
        Op op;
        /** What an ADVERB goes through (left null: one value alone); of a call the x and y ahead of it. */
        Value left;
        Value right;
        /** The next item's place, and how many items there are. */
        int next;
        int many;
        /** How many values were stacked ahead of those that an ADVERB makes. */
        int base;
    }

    /** Does Ops with a stack of values and one of Frames, and keeps the WORK. */
    static final class Machine {
        /** 11 bodies with 4 ADVERBS each, and 10 calls, can wait at once: 54 Frames. */
        private static final int MOST_FRAMES = 64;
        /** Each ADVERB that waits holds at most 121 values, each body at most its 200 bytes' values. */
        private static final int MOST_STACKED = 8192;
        /** Each call takes WORK, and a body has at most 200 steps that take none. */
        private static final int MOST_STEPS = 200000000;

        private final Names known;
        private final OneAct ones = new OneAct();
        private final TwoAct twos = new TwoAct();
        private final Value[] stack = new Value[MOST_STACKED];
        private int top;
        private final Frame[] frames = new Frame[MOST_FRAMES];
        private int depth;
        private int calls;
        private int outerPlace;
        private int work = ALL_WORK;
        private int error;
        private int place;
        private Op now;
        private Value x;
        private Value y;
        /** What is to be applied next (null: nothing), with how many of its ADVERBS, to which values. */
        private Op doing;
        private int level;
        private Value left;
        private Value right;

        Machine(Names known) {
            this.known = known;
            for (int i = 0; i < frames.length; i++) {
                frames[i] = new Frame();
            }
        }

        int workLeft() {
            return work;
        }

        int error() {
            return error;
        }

        int errorPlace() {
            return place;
        }

        /** The value that the Ops come to; null: error() tells why. */
        Value run(Op first) {
            top = 0;
            depth = 0;
            calls = 0;
            error = 0;
            x = null;
            y = null;
            doing = null;
            now = first;
            for (int step = 0; step < MOST_STEPS && error == 0; step++) {
                if (doing != null && level > 0) {
                    startAdverb(doing, left, right);
                } else if (doing != null && doing.verb == 0) {
                    startCall(doing);
                } else if (doing != null) {
                    act(doing);
                } else if (depth > 0 && frames[depth - 1].level > 0) {
                    advance(frames[depth - 1]);
                } else if (now != null) {
                    step(now);
                } else if (depth > 0) {
                    giveBack(frames[depth - 1]);
                } else {
                    return pop();
                }
            }
            error = error == 0 ? NO_WORK : error;
            return null;
        }

        private void push(Value value) {
            if (top < stack.length) {
                stack[top] = value;
                top++;
            }
        }

        private Value pop() {
            if (top < 1) {
                return Value.fault(NO_VALUE);
            }
            top--;
            return stack[top];
        }

        private Value stacked(int at) {
            return at >= 0 && at < top ? stack[at] : Value.fault(NO_VALUE);
        }

        private void fail(int why, Op op) {
            error = why;
            place = calls > 0 ? outerPlace : op.place;
        }

        private boolean take(int much, Op op) {
            if (much > work) {
                fail(NO_WORK, op);
                return false;
            }
            work -= much;
            return true;
        }

        private void pend(Op op, int adverbs, Value l, Value w) {
            doing = op;
            level = adverbs;
            left = l;
            right = w;
        }

        private void step(Op op) {
            now = op.next;
            switch (op.deed) {
                case PUSH:
                    push(op.value);
                    break;
                case LOOK_UP:
                    lookUp(op);
                    break;
                case WITH_ONE:
                    pend(op, op.adverbsMany, null, pop());
                    break;
                case WITH_TWO:
                    Value l = pop();
                    pend(op, op.adverbsMany, l, pop());
                    break;
                case GATHER:
                    gather(op, top - 1, op.parts, -1);
                    break;
                case CHOOSE:
                    choose(op, pop());
                    break;
                case AMEND:
                    amend(op);
                    break;
                default:
                    break;
            }
        }

        private void lookUp(Op op) {
            Value value = known.valueOf(op.name);
            if (op.name == NAME_X) {
                value = x;
            } else if (op.name == NAME_Y) {
                value = y;
            }
            if (value == null) {
                fail(NO_VALUE, op);
            } else {
                push(value);
            }
        }

        private void choose(Op op, Value asked) {
            if (asked.form != NUMBER) {
                fail(WRONG_NUMBER, op);
            } else if (asked.num == 0) {
                now = op.other;
            }
        }

        private void amend(Op op) {
            Value l = pop();
            Value w = pop();
            Value v = pop();
            if (take(3 + l.size + w.size + v.size, op)) {
                finish(twos.amended(l, w, v), op);
            }
        }

        private void act(Op op) {
            doing = null;
            int sizes = right.size + (left == null ? 0 : left.size);
            if (take(3 + sizes, op)) {
                finish(left == null ? ones.of(op.verb, right) : twos.of(op.verb, left, right), op);
            }
        }

        private void finish(Value made, Op op) {
            if (made.isFault()) {
                fail((int) made.num, op);
            } else if (made.size > MOST_SIZE || made.levels > MOST_LEVELS) {
                fail(TOO_MANY, op);
            } else if (take(made.size, op)) {
                push(made);
            }
        }

        private void startCall(Op op) {
            doing = null;
            Op body = known.functionOf(op.name);
            if (body == null) {
                fail(NO_VALUE, op);
            } else if (calls >= MOST_CALLS || depth >= frames.length) {
                fail(TOO_DEEP, op);
            } else if (take(5, op)) {
                outerPlace = calls == 0 ? op.place : outerPlace;
                calls++;
                Frame frame = frames[depth];
                depth++;
                frame.level = 0;
                frame.op = now;
                frame.left = x;
                frame.right = y;
                now = body;
                x = left == null ? right : left;
                y = left == null ? null : right;
            }
        }

        private void giveBack(Frame frame) {
            depth--;
            calls--;
            now = frame.op;
            x = frame.left;
            y = frame.right;
        }

        private void startAdverb(Op op, Value l, Value w) {
            doing = null;
            if (!take(3, op)) {
                return;
            }
            boolean each = op.adverbAt(level) == '\'';
            boolean unlike = each && l != null && !l.isOne() && !w.isOne() && l.many != w.many;
            if (unlike || (!each && l == null && w.many == 0)) {
                fail(WRONG_COUNT, op);
                return;
            }
            if (depth >= frames.length) {
                fail(TOO_DEEP, op);
                return;
            }
            Frame frame = frames[depth];
            depth++;
            frame.level = level;
            frame.op = op;
            frame.left = l;
            frame.right = w;
            frame.base = top;
            frame.next = 0;
            frame.many = each && l != null && !l.isOne() ? l.many : w.many;
            if (!each) {
                frame.next = l == null ? 1 : 0;
                push(l == null ? w.itemAt(0) : l);
            }
        }

        /** Goes on to the next item, or ends the ADVERB; what was made last is on top of the stack. */
        private void advance(Frame frame) {
            Op op = frame.op;
            int adverb = op.adverbAt(frame.level);
            if (frame.next >= frame.many) {
                depth--;
                if (adverb != '/') {
                    gather(op, frame.base, top - frame.base, 1);
                }
                return;
            }
            int i = frame.next;
            frame.next++;
            Value l = adverb == '\'' ? frame.left : pop();
            if (adverb == '\\') {
                push(l);
            }
            if (adverb == '\'' && l != null) {
                l = l.itemAt(i);
            }
            pend(op, frame.level - 1, l, frame.right.itemAt(i));
        }

        /** Puts the n values on top of the stack into one; the first is at from, the others a step on. */
        private void gather(Op op, int from, int n, int step) {
            int numbers = 0;
            int signs = 0;
            for (int i = 0; i < n; i++) {
                int form = stacked(from + i * step).form;
                numbers += form == NUMBER ? 1 : 0;
                signs += form == SIGN ? 1 : 0;
            }
            boolean row = n > 0 && (numbers == n || signs == n);
            if (n > (row ? MOST_ONES : MOST_VALUES)) {
                fail(TOO_MANY, op);
                return;
            }
            Value made = row ? gatherRow(from, n, step) : gatherNest(from, n, step);
            if (made.size > MOST_SIZE || made.levels > MOST_LEVELS) {
                fail(TOO_MANY, op);
            } else if (take(3 + made.size, op)) {
                top -= n;
                push(made);
            }
        }

        private Value gatherRow(int from, int n, int step) {
            long[] row = new long[n];
            for (int i = 0; i < n; i++) {
                row[i] = stacked(from + i * step).num;
            }
            return stacked(from).form == SIGN ? Value.row(SIGNS, row) : Value.numberRow(row);
        }

        private Value gatherNest(int from, int n, int step) {
            Value[] vals = new Value[n];
            for (int i = 0; i < n; i++) {
                vals[i] = stacked(from + i * step);
            }
            return Value.nest(vals);
        }
    }

    /** The acts with one value. */
    static final class OneAct {
        private final int[] places = new int[MOST_NUMBERS];
        private final long[] numbers = new long[MOST_NUMBERS];
        private final Printer printer = new Printer(MOST_ONES + 1);
        private final Paired paired = new Paired();
        private final Value zero = Value.number(0);

        Value of(int verb, Value w) {
            switch (verb) {
                case '+':
                    return w.form == TABLE ? flipped(w) : w;
                case '-':
                case '%':
                case '~':
                    // What goes THROUGH w asks and makes the same as if w were PAIRED with 0.
                    paired.ready(verb == '%' ? Paired.WAY : verb);
                    paired.ask(zero, w, 0);
                    return paired.ends() ? Value.fault(paired.error()) : paired.make(zero, w);
                case '*':
                    return w.many == 0 ? Value.fault(WRONG_COUNT) : w.itemAt(0);
                case '&':
                    return where(w);
                case '|':
                    return turned(w);
                case '<':
                case '>':
                case '^':
                    return ordered(verb, w);
                case '=':
                    return groups(w);
                case '?':
                    return unlike(w);
                case '!':
                    return placesBelow(w);
                case ',':
                    return oneMore(w);
                case '.':
                    return numbersTold(w);
                case '#':
                    return Value.number(w.many);
                case '_':
                    return shape(w);
                case '@':
                    return Value.number(w.form);
                case '$':
                    return text(w);
                default:
                    return Value.fault(BAD_LINE);
            }
        }

        private static Value flipped(Value w) {
            long[] turned = new long[w.numbers()];
            for (int r = 0; r < w.many; r++) {
                for (int c = 0; c < w.cols; c++) {
                    turned[c * w.many + r] = w.numberAt(r * w.cols + c);
                }
            }
            return Value.table(turned, w.cols, w.many);
        }

        private Value where(Value w) {
            if (!w.isRow()) {
                return Value.fault(WRONG_SORT);
            }
            if (w.form == SIGNS) {
                return Value.fault(WRONG_NUMBER);
            }
            int n = 0;
            for (int i = 0; i < w.many; i++) {
                long often = w.numberAt(i);
                if (often < 0) {
                    return Value.fault(WRONG_NUMBER);
                }
                if (often > MOST_ONES - n) {
                    return Value.fault(TOO_MANY);
                }
                for (int k = 0; k < often; k++) {
                    numbers[n] = i;
                    n++;
                }
            }
            return Value.numberRow(Arrays.copyOf(numbers, n));
        }

        private Value turned(Value w) {
            if (w.isOne()) {
                return w;
            }
            for (int i = 0; i < w.many; i++) {
                places[i] = w.many - 1 - i;
            }
            return w.pick(places, w.many);
        }

        private Value ordered(int verb, Value w) {
            if (!w.isRow()) {
                return Value.fault(WRONG_SORT);
            }
            for (int i = 0; i < w.many; i++) {
                int at = i;
                while (at > 0 && isAhead(verb, w.numberAt(i), w.numberAt(places[at - 1]))) {
                    places[at] = places[at - 1];
                    at--;
                }
                places[at] = i;
            }
            return verb == '^' ? w.pick(places, w.many) : placesMade(w.many);
        }

        private static boolean isAhead(int verb, long one, long other) {
            return verb == '>' ? one > other : one < other;
        }

        private Value placesMade(int n) {
            long[] row = new long[n];
            for (int i = 0; i < n; i++) {
                row[i] = places[i];
            }
            return Value.row(INTS, row);
        }

        private Value groups(Value w) {
            if (!w.isRow()) {
                return Value.fault(WRONG_SORT);
            }
            int n = unlikePlaces(w);
            if (n > MOST_VALUES) {
                return Value.fault(TOO_MANY);
            }
            long[] row = new long[w.many];
            Value[] vals = new Value[n];
            int end = 0;
            for (int g = 0; g < n; g++) {
                int from = end;
                for (int i = 0; i < w.many; i++) {
                    if (w.numberAt(i) == w.numberAt(places[g])) {
                        row[end] = i;
                        end++;
                    }
                }
                vals[g] = Value.rowAt(INTS, row, from, end - from);
            }
            return Value.nest(vals);
        }

        /** Puts the places of a ROW's items that are unlike all ahead of them into places: how many. */
        private int unlikePlaces(Value w) {
            int n = 0;
            for (int i = 0; i < w.many; i++) {
                int at = 0;
                while (at < n && w.numberAt(i) != w.numberAt(places[at])) {
                    at++;
                }
                if (at == n) {
                    places[n] = i;
                    n++;
                }
            }
            return n;
        }

        private Value unlike(Value w) {
            if (w.isOne()) {
                return w;
            }
            if (w.isRow()) {
                return w.pick(places, unlikePlaces(w));
            }
            int n = 0;
            for (int i = 0; i < w.many; i++) {
                int at = 0;
                while (at < n && !Value.sameItems(w, i, w, places[at])) {
                    at++;
                }
                if (at == n) {
                    places[n] = i;
                    n++;
                }
            }
            Value[] vals = new Value[n];
            for (int i = 0; i < n; i++) {
                vals[i] = w.itemAt(places[i]);
            }
            return Value.nest(vals);
        }

        private static Value placesBelow(Value w) {
            if (!w.isOne()) {
                return Value.fault(WRONG_SORT);
            }
            if (w.form == SIGN || w.num < 0 || w.num > MOST_ONES) {
                return Value.fault(WRONG_NUMBER);
            }
            long[] row = new long[(int) w.num];
            for (int i = 0; i < row.length; i++) {
                row[i] = i;
            }
            return Value.row(INTS, row);
        }

        private Value oneMore(Value w) {
            if (w.isOne()) {
                return w.pick(places, 1);
            }
            Value[] alone = {w};
            return Value.nest(alone);
        }

        private Value numbersTold(Value w) {
            if (!w.ofSigns()) {
                return Value.fault(WRONG_SORT);
            }
            int n = 0;
            int at = 0;
            for (int turn = 0; turn < MOST_ONES && at < w.many; turn++) {
                if (w.numberAt(at) == ' ') {
                    at++;
                } else {
                    int end = numberEnd(w, at);
                    if (end < 0) {
                        return Value.fault(WRONG_NUMBER);
                    }
                    numbers[n] = numberOf(w, at, end);
                    n++;
                    at = end;
                }
            }
            return Value.numberRow(Arrays.copyOf(numbers, n));
        }

        /** Where the NUMBER at from ends, with a blank or nothing behind it; NONE: it is no NUMBER. */
        private static int numberEnd(Value w, int from) {
            int digits = w.numberAt(from) == '_' ? from + 1 : from;
            int end = digits;
            while (end < w.many && isDigit(w.numberAt(end))) {
                end++;
            }
            boolean parted = end >= w.many || w.numberAt(end) == ' ';
            return parted && end > digits && end - digits <= MOST_DIGITS ? end : NONE;
        }

        private static long numberOf(Value w, int from, int end) {
            boolean below = w.numberAt(from) == '_';
            long number = 0;
            for (int i = below ? from + 1 : from; i < end; i++) {
                number = number * 10 + (w.numberAt(i) - '0');
            }
            return below ? -number : number;
        }

        private static Value shape(Value w) {
            if (w.isOne()) {
                return Value.row(INTS, NO_NUMBERS);
            }
            if (w.form == TABLE) {
                long[] both = {w.many, w.cols};
                return Value.row(INTS, both);
            }
            long[] counted = {w.many};
            return Value.row(INTS, counted);
        }

        private Value text(Value w) {
            printer.clear();
            printer.put(w);
            int n = printer.length();
            if (n > MOST_ONES) {
                return Value.fault(TOO_MANY);
            }
            long[] signs = new long[n];
            for (int i = 0; i < n; i++) {
                signs[i] = printer.byteAt(i);
            }
            return Value.row(SIGNS, signs);
        }
    }

    /** The acts with two values, and AMENDED. */
    static final class TwoAct {
        private final Paired paired = new Paired();
        private final int[] places = new int[MOST_NUMBERS];
        private final long[] numbers = new long[MOST_NUMBERS];
        private final Value[] puts = new Value[MOST_ONES];
        private int fault;

        Value of(int verb, Value l, Value w) {
            switch (verb) {
                case '~':
                    return Value.number(Value.same(l, w) ? 1 : 0);
                case ',':
                    return joined(l, w);
                case '#':
                    return taken(l, w);
                case '_':
                    return dropped(l, w);
                case '?':
                    return found(l, w);
                case '@':
                    return at(l, w);
                case '$':
                    return fit(l, w);
                case '^':
                    return without(l, w);
                case '.':
                    return inner(l, w);
                default:
                    paired.ready(verb);
                    paired.ask(l, w, 0);
                    return paired.ends() ? Value.fault(paired.error()) : paired.make(l, w);
            }
        }

        private static Value joined(Value l, Value w) {
            boolean ofNumbers = l.ofNumbers() && w.ofNumbers();
            if (ofNumbers || (l.ofSigns() && w.ofSigns())) {
                if (l.many + w.many > MOST_ONES) {
                    return Value.fault(TOO_MANY);
                }
                long[] row = joinedNumbers(l, w);
                if (l.form == BITS && w.form == BITS) {
                    return Value.row(BITS, row);
                }
                return ofNumbers ? Value.numberRow(row) : Value.row(SIGNS, row);
            }
            if (l.form == TABLE && w.form == TABLE && l.cols == w.cols) {
                return l.many + w.many > MOST_LINES
                    ? Value.fault(TOO_MANY) : Value.table(joinedNumbers(l, w), l.many + w.many, l.cols);
            }
            if (l.many + w.many > MOST_VALUES) {
                return Value.fault(TOO_MANY);
            }
            Value[] vals = new Value[l.many + w.many];
            for (int i = 0; i < vals.length; i++) {
                vals[i] = i < l.many ? l.itemAt(i) : w.itemAt(i - l.many);
            }
            return Value.nest(vals);
        }

        private static long[] joinedNumbers(Value l, Value w) {
            int first = l.numbers();
            long[] row = new long[first + w.numbers()];
            for (int i = 0; i < row.length; i++) {
                row[i] = i < first ? l.numberAt(i) : w.numberAt(i - first);
            }
            return row;
        }

        private Value taken(Value l, Value w) {
            if (l.isRow() && l.form != SIGNS && l.many == 2) {
                return tableTaken(l.numberAt(0), l.numberAt(1), w);
            }
            if (!l.isOne()) {
                return Value.fault(WRONG_SORT);
            }
            if (l.form == SIGN || l.num < -MOST_ONES || l.num > MOST_ONES || (l.num == 0 && w.form == TABLE)) {
                return Value.fault(WRONG_NUMBER);
            }
            if (l.num != 0 && w.many == 0) {
                return Value.fault(WRONG_COUNT);
            }
            int n = (int) Math.abs(l.num);
            for (int i = 0; i < n && w.many > 0; i++) {
                places[l.num > 0 ? i : n - 1 - i] = l.num > 0 ? i % w.many : w.many - 1 - i % w.many;
            }
            return w.pick(places, n);
        }

        private static Value tableTaken(long lines, long cols, Value w) {
            if (w.form == NEST) {
                return Value.fault(WRONG_SORT);
            }
            if (lines < 1 || lines > MOST_LINES || cols < 1 || cols > MOST_LINES || w.ofSigns()) {
                return Value.fault(WRONG_NUMBER);
            }
            int many = w.numbers();
            if (many == 0) {
                return Value.fault(WRONG_COUNT);
            }
            long[] row = new long[(int) (lines * cols)];
            for (int i = 0; i < row.length; i++) {
                row[i] = w.numberAt(i % many);
                if (!fitsInt(row[i])) {
                    return Value.fault(BEYOND);
                }
            }
            return Value.table(row, (int) lines, (int) cols);
        }

        private Value dropped(Value l, Value w) {
            if (!l.isOne()) {
                return Value.fault(WRONG_SORT);
            }
            if (l.form == SIGN) {
                return Value.fault(WRONG_NUMBER);
            }
            int less = (int) Math.max(-w.many, Math.min(w.many, l.num));
            int from = Math.max(less, 0);
            int n = w.many - Math.abs(less);
            for (int i = 0; i < n; i++) {
                places[i] = from + i;
            }
            return w.pick(places, n);
        }

        private static Value found(Value l, Value w) {
            if (l.isOne() || (l.isRow() && (w.form == TABLE || w.form == NEST))) {
                return Value.fault(WRONG_SORT);
            }
            if (!l.isRow() || w.isOne()) {
                int at = 0;
                while (at < l.many && !Value.sameItem(l, at, w)) {
                    at++;
                }
                return Value.number(at);
            }
            long[] row = new long[w.many];
            for (int i = 0; i < row.length; i++) {
                int at = 0;
                while (at < l.many && !Value.sameItems(l, at, w, i)) {
                    at++;
                }
                row[i] = at;
            }
            return Value.row(INTS, row);
        }

        private Value at(Value l, Value w) {
            int asked = placesAsked(l, w);
            if (asked != 0) {
                return Value.fault(asked);
            }
            if (l.form == TABLE && w.many == 0) {
                return Value.fault(WRONG_COUNT);
            }
            if (!placesThere(l, w)) {
                return Value.fault(NO_PLACE);
            }
            return w.isOne() ? l.itemAt(places[0]) : l.pick(places, w.many);
        }

        /** What AT and AMENDED ask of l and places w ahead of all else: an error, or 0. */
        private static int placesAsked(Value l, Value w) {
            if (l.isOne() || w.form == TABLE || w.form == NEST) {
                return WRONG_SORT;
            }
            return w.ofSigns() ? WRONG_NUMBER : 0;
        }

        /** Puts the numbers of w into places, if all of them are places of l. */
        private boolean placesThere(Value l, Value w) {
            for (int i = 0; i < w.many; i++) {
                long place = w.numberAt(i);
                if (place < 0 || place >= l.many) {
                    return false;
                }
                places[i] = (int) place;
            }
            return true;
        }

        private static Value fit(Value l, Value w) {
            if (!l.isOne()) {
                return Value.fault(WRONG_SORT);
            }
            if (l.form == SIGN || l.num < -MOST_ONES || l.num > MOST_ONES || !w.ofSigns()) {
                return Value.fault(WRONG_NUMBER);
            }
            long[] signs = new long[(int) Math.abs(l.num)];
            int shift = l.num < 0 ? w.many - signs.length : 0;
            for (int i = 0; i < signs.length; i++) {
                int from = i + shift;
                signs[i] = from >= 0 && from < w.many ? w.numberAt(from) : ' ';
            }
            return Value.row(SIGNS, signs);
        }

        private Value without(Value l, Value w) {
            if (l.isOne()) {
                return Value.fault(WRONG_SORT);
            }
            int n = 0;
            for (int i = 0; i < l.many; i++) {
                int at = 0;
                while (at < w.many && !Value.sameItems(l, i, w, at)) {
                    at++;
                }
                if (at == w.many) {
                    places[n] = i;
                    n++;
                }
            }
            return l.pick(places, n);
        }

        private Value inner(Value l, Value w) {
            if (!(l.isRow() || l.form == TABLE) || !(w.isRow() || w.form == TABLE)) {
                return Value.fault(WRONG_SORT);
            }
            if (l.ofSigns() || w.ofSigns()) {
                return Value.fault(WRONG_NUMBER);
            }
            int along = l.form == TABLE ? l.cols : l.many;
            if (along != w.many) {
                return Value.fault(WRONG_COUNT);
            }
            int lines = l.form == TABLE ? l.many : 1;
            int cols = w.form == TABLE ? w.cols : 1;
            boolean small = l.form == TABLE && w.form == TABLE;
            fault = 0;
            for (int r = 0; r < lines && fault == 0; r++) {
                for (int c = 0; c < cols && fault == 0; c++) {
                    long sum = sumOfProducts(l, r * along, w, c, cols);
                    numbers[r * cols + c] = sum;
                    if (small && !fitsInt(sum)) {
                        fault = BEYOND;
                    }
                }
            }
            if (fault != 0) {
                return Value.fault(fault);
            }
            if (l.isRow() && w.isRow()) {
                return Value.number(numbers[0]);
            }
            long[] row = Arrays.copyOf(numbers, lines * cols);
            return small ? Value.table(row, lines, cols) : Value.numberRow(row);
        }

        /** Of the items of l from one on and those of w that stand a step from one another. */
        private long sumOfProducts(Value l, int from, Value w, int start, int step) {
            long sum = 0;
            for (int k = 0; k < w.many; k++) {
                long a = l.numberAt(from + k);
                long b = w.numberAt(start + k * step);
                if (Paired.beyondProduct(a, b) || Paired.beyondSum(sum, a * b)) {
                    fault = BEYOND;
                    return 0;
                }
                sum += a * b;
            }
            return sum;
        }

        Value amended(Value l, Value w, Value v) {
            int asked = placesAsked(l, w);
            if (asked != 0) {
                return Value.fault(asked);
            }
            boolean whole = w.isOne() || v.isOne();
            if (!whole && w.many != v.many) {
                return Value.fault(WRONG_COUNT);
            }
            if (!placesThere(l, w)) {
                return Value.fault(NO_PLACE);
            }
            for (int i = 0; i < l.many; i++) {
                puts[i] = null;
            }
            // All that is put tells the KIND, also what another value at its place comes behind.
            boolean ofItsSort = l.isRow();
            boolean bits = l.form == BITS;
            for (int i = 0; i < w.many; i++) {
                Value put = whole ? v : v.itemAt(i);
                int wrong = l.form == TABLE ? lineAsked(put, l.cols) : 0;
                if (wrong != 0) {
                    return Value.fault(wrong);
                }
                puts[places[i]] = put;
                ofItsSort = ofItsSort && put.form == (l.form == SIGNS ? SIGN : NUMBER);
                bits = bits && (put.num == 0 || put.num == 1);
            }
            if (l.form == TABLE) {
                return amendedTable(l);
            }
            return ofItsSort ? amendedRow(l, bits) : amendedNest(l);
        }

        /** What a TABLE asks of a LINE that is put into it: an error, or 0. */
        private static int lineAsked(Value put, int cols) {
            if (!put.isRow()) {
                return WRONG_SORT;
            }
            if (put.form == SIGNS) {
                return WRONG_NUMBER;
            }
            if (put.many != cols) {
                return WRONG_COUNT;
            }
            for (int i = 0; i < cols; i++) {
                if (!fitsInt(put.numberAt(i))) {
                    return BEYOND;
                }
            }
            return 0;
        }

        private Value amendedTable(Value l) {
            long[] row = new long[l.numbers()];
            for (int r = 0; r < l.many; r++) {
                Value put = puts[r];
                for (int c = 0; c < l.cols; c++) {
                    int i = r * l.cols + c;
                    row[i] = put == null ? l.numberAt(i) : put.numberAt(c);
                }
            }
            return Value.table(row, l.many, l.cols);
        }

        private Value amendedRow(Value l, boolean bits) {
            long[] row = new long[l.many];
            for (int i = 0; i < row.length; i++) {
                row[i] = puts[i] == null ? l.numberAt(i) : puts[i].num;
            }
            if (l.form == SIGNS) {
                return Value.row(SIGNS, row);
            }
            return bits ? Value.row(BITS, row) : Value.numberRow(row);
        }

        private Value amendedNest(Value l) {
            if (l.many > MOST_VALUES) {
                return Value.fault(TOO_MANY);
            }
            Value[] vals = new Value[l.many];
            for (int i = 0; i < vals.length; i++) {
                vals[i] = puts[i] == null ? l.itemAt(i) : puts[i];
            }
            return Value.nest(vals);
        }
    }

    /**
     * The acts that are PAIRED, and those that go THROUGH one value. All is asked ahead of making
     * anything, as an error takes no WORK for what would have been made.
     */
    static final class Paired {
        /** The act % with one value; that of ~ with one has no namesake here. */
        static final int WAY = 'w';

        private int verb;
        private int fault;
        /** What the items come to, in their order; beyond the greatest SIZE they are left out. */
        private final long[] numbers = new long[MOST_SIZE];
        /** Of what is to be made: its SIZE and LEVELS, all its numbers, all values of its NESTS. */
        private int size;
        private int levels;
        private int numbersMany;
        private int valuesMany;
        /** Whether some of its numbers are those of a ROW or TABLE. */
        private boolean rowed;
        /** The arrays that all values which are made share, and how far they are used. */
        private long[] row = NO_NUMBERS;
        private Value[] vals;
        private int numbersUsed;
        private int valuesUsed;

        void ready(int act) {
            verb = act;
            fault = 0;
            size = 0;
            levels = 0;
            numbersMany = 0;
            valuesMany = 0;
            rowed = false;
            numbersUsed = 0;
            valuesUsed = 0;
        }

        /** Asks all of l and w, around which so many NESTS stand. */
        private void ask(Value l, Value w, int around) {
            if (l.form != NEST && w.form != NEST) {
                askFlat(l, w, around);
                return;
            }
            if (l.form == NEST && w.form == NEST && l.many != w.many) {
                fault = WRONG_COUNT;
                return;
            }
            int many = l.form == NEST ? l.many : w.many;
            size++;
            levels = Math.max(levels, around + 1);
            valuesMany += many;
            for (int i = 0; i < many && fault == 0; i++) {
                ask(l.valueAt(i), w.valueAt(i), around + 1);
            }
        }

        private void askFlat(Value l, Value w, int around) {
            fault = asked(l, w);
            Value like = l.isOne() ? w : l;
            int n = like.numbers();
            for (int i = 0; i < n && fault == 0; i++) {
                long number = outcome(l, w, i);
                if (fault == 0 && like.form == TABLE && !fitsInt(number)) {
                    fault = BEYOND;
                }
                if (numbersMany < numbers.length) {
                    numbers[numbersMany] = number;
                    numbersMany++;
                }
            }
            size += like.size;
            levels = Math.max(levels, around + like.levels);
            rowed = rowed || (n > 0 && !like.isOne());
        }

        /** Whether an error ends the act; if none does, all is ready for make. */
        boolean ends() {
            if (fault == 0 && (size > MOST_SIZE || levels > MOST_LEVELS)) {
                fault = TOO_MANY;
            }
            if (fault != 0) {
                return true;
            }
            row = rowed ? Arrays.copyOf(numbers, numbersMany) : NO_NUMBERS;
            vals = valuesMany == 0 ? null : new Value[valuesMany];
            return false;
        }

        int error() {
            return fault;
        }

        /** What comes of l and w, which have been asked. */
        private Value make(Value l, Value w) {
            if (l.form != NEST && w.form != NEST) {
                return makeFlat(l.isOne() ? w : l);
            }
            int many = l.form == NEST ? l.many : w.many;
            int from = valuesUsed;
            valuesUsed += many;
            for (int i = 0; i < many; i++) {
                Value made = make(l.valueAt(i), w.valueAt(i));
                if (vals != null && from + i < vals.length) {
                    vals[from + i] = made;
                }
            }
            return Value.nestAt(vals, from, many);
        }

        private Value makeFlat(Value like) {
            int from = numbersUsed;
            numbersUsed += like.numbers();
            if (like.isOne()) {
                return Value.number(from < numbers.length ? numbers[from] : 0);
            }
            if (like.form == TABLE) {
                return Value.tableAt(row, from, like.many, like.cols);
            }
            boolean bits = verb == '<' || verb == '>' || verb == '=' || verb == '~';
            return bits ? Value.rowAt(BITS, row, from, like.many) : Value.numberRowAt(row, from, like.many);
        }

        /** What is asked of two values, no NESTS, ahead of their items: an error, or 0. */
        private static int asked(Value l, Value w) {
            if (l.isOne() || w.isOne()) {
                return 0;
            }
            if (l.isRow() != w.isRow()) {
                return WRONG_SORT;
            }
            return l.many != w.many || l.cols != w.cols ? WRONG_COUNT : 0;
        }

        /** What the act makes of the numbers at place i; sets fault where it makes none. */
        private long outcome(Value l, Value w, int i) {
            long a = l.numberAt(i);
            long b = w.numberAt(i);
            boolean alike = l.ofSigns() == w.ofSigns();
            if (verb == '=') {
                return alike && a == b ? 1 : 0;
            }
            boolean compares = verb == '<' || verb == '>';
            if (!alike || (l.ofSigns() && !compares)) {
                fault = WRONG_NUMBER;
                return 0;
            }
            switch (verb) {
                case '<':
                    return a < b ? 1 : 0;
                case '>':
                    return a > b ? 1 : 0;
                case '+':
                    fault = beyondSum(a, b) ? BEYOND : 0;
                    return a + b;
                case '-':
                    fault = beyondDifference(a, b) ? BEYOND : 0;
                    return a - b;
                case '*':
                    fault = beyondProduct(a, b) ? BEYOND : 0;
                    return a * b;
                case '%':
                    return quotient(a, b);
                case '!':
                    return rest(b, a);
                case '&':
                    return Math.min(a, b);
                case '|':
                    return Math.max(a, b);
                case '~':
                    return b == 0 ? 1 : 0;
                case WAY:
                    return Long.compare(b, 0);
                default:
                    fault = BAD_LINE;
                    return 0;
            }
        }

        private long quotient(long a, long b) {
            if (b == 0) {
                fault = WRONG_NUMBER;
                return 0;
            }
            if (a == Long.MIN_VALUE && b == -1) {
                fault = BEYOND;
                return 0;
            }
            long whole = a / b;
            return whole * b != a && (a < 0) != (b < 0) ? whole - 1 : whole;
        }

        private long rest(long a, long b) {
            if (b == 0) {
                fault = WRONG_NUMBER;
                return 0;
            }
            long left = a % b;
            return left != 0 && (left < 0) != (b < 0) ? left + b : left;
        }

        static boolean beyondSum(long a, long b) {
            return b > 0 ? a > Long.MAX_VALUE - b : a < Long.MIN_VALUE - b;
        }

        static boolean beyondDifference(long a, long b) {
            return b > 0 ? a < Long.MIN_VALUE + b : a > Long.MAX_VALUE + b;
        }

        static boolean beyondProduct(long a, long b) {
            if (a == 0 || b == 0) {
                return false;
            }
            if (a == -1 || b == -1) {
                return a == Long.MIN_VALUE || b == Long.MIN_VALUE;
            }
            return a * b / b != a;
        }
    }

    /** Bytes of values as they are PRINTED; those behind the most that it holds are left out. */
    static final class Printer {
        private static final int MOST_PLACES = 20;
        private final byte[] bytes;
        private final byte[] digits = new byte[MOST_PLACES];
        private int made;

        Printer(int most) {
            bytes = new byte[most];
        }

        void clear() {
            made = 0;
        }

        int length() {
            return made;
        }

        int byteAt(int k) {
            return k >= 0 && k < made ? bytes[k] : NONE;
        }

        private void put(Value value) {
            switch (value.form) {
                case NUMBER:
                    putNumber(value.num);
                    break;
                case SIGN:
                case SIGNS:
                    putSigns(value);
                    break;
                case BITS:
                    putNumbers(value);
                    add('b');
                    break;
                case INTS:
                case LONGS:
                    if (value.many < 2) {
                        add(value.many == 0 ? '!' : ',');
                    }
                    if (value.many == 0) {
                        add('0');
                    }
                    putNumbers(value);
                    break;
                case TABLE:
                    add('[');
                    putNumbers(value);
                    add(']');
                    break;
                case NEST:
                    add('(');
                    for (int i = 0; i < value.many; i++) {
                        if (i > 0) {
                            add(';');
                        }
                        put(value.itemAt(i));
                    }
                    add(')');
                    break;
                default:
                    break;
            }
        }

        private void add(int c) {
            if (made < bytes.length) {
                bytes[made] = (byte) c;
                made++;
            }
        }

        private void putNumber(long number) {
            // Below 0 there is room for the digits of every number, above there isn't.
            long left = number < 0 ? number : -number;
            int n = 0;
            do {
                digits[n] = (byte) ('0' - left % 10);
                n++;
                left /= 10;
            } while (left != 0 && n < digits.length - 1);
            if (number < 0) {
                digits[n] = '_';
                n++;
            }
            while (n > 0 && made < bytes.length) {
                n--;
                bytes[made] = digits[n];
                made++;
            }
        }

        /** The numbers of a ROW or TABLE with what parts them; nothing parts BITS. */
        private void putNumbers(Value value) {
            for (int i = 0; i < value.numbers(); i++) {
                if (i > 0 && value.form != BITS) {
                    add(value.cols > 0 && i % value.cols == 0 ? ';' : ' ');
                }
                putNumber(value.numberAt(i));
            }
        }

        private void putSigns(Value value) {
            if (value.form == SIGNS && value.many == 1) {
                add(',');
            }
            add('\'');
            for (int i = 0; i < value.many; i++) {
                long c = value.numberAt(i);
                add(c < ' ' || c > '~' || c == '\'' ? '.' : (int) c);
            }
            add('\'');
        }
    }
}
