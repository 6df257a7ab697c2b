import java.util.Arrays;

/**
 * A core of a command language. The scripts are worked by one loop over a row of tasks, not by
 * methods that call themselves, because up to a hundred evaluations may be open in one another.
 */
public final class CommandCore {
    private static final int TAPE_LIMIT = 4000;

    private final byte[] tape = new byte[TAPE_LIMIT];
    private final Machine machine = new Machine();
    private int tapeSize;

    public CommandCore() {
        tapeSize = 0;
    }

    public int feed(int a, int b, int c, int d, int e) {
        if (tapeSize + 20 > TAPE_LIMIT) {
            return -1;
        }
        writeNumber(a);
        writeNumber(b);
        writeNumber(c);
        writeNumber(d);
        writeNumber(e);
        return tapeSize;
    }

    private void writeNumber(int number) {
        for (int shift = 24; shift >= 0 && tapeSize < TAPE_LIMIT; shift -= 8) {
            tape[tapeSize++] = (byte) (number >> shift);
        }
    }

    public int end(int n) {
        if (n < 0 || n > tapeSize) {
            return -1;
        }
        tapeSize = n;
        return n;
    }

    public int run() {
        Text script = new Text(Arrays.copyOf(tape, tapeSize), 0, tapeSize);
        tapeSize = 0;
        machine.start(script);
        machine.drive();
        return machine.finish();
    }

    public int size() {
        return machine.scribe.result.size;
    }

    public int result(int i) {
        return machine.scribe.result.at(i);
    }

    public int outSize() {
        return machine.basics.outSize;
    }

    public int out(int i) {
        return machine.basics.outByte(i);
    }

    public int count(int what) {
        switch (what) {
            case 0:
                return machine.scribe.work;
            case 1:
                return machine.ran;
            case 2:
                return machine.mostEvaluating;
            case 3:
                return machine.mostOpen;
            case 4:
                return machine.store.commandCount;
            case 5:
                return machine.store.frames[0].known;
            case 6:
                return tapeSize;
            default:
                return -1;
        }
    }

    private static boolean isBlank(int c) {
        return c == 9 || c == 32;
    }

    private static boolean isWhite(int c) {
        return c >= 9 && c <= 13 || c == 32;
    }

    private static boolean isDigit(int c) {
        return c >= '0' && c <= '9';
    }

    private static boolean isOctal(int c) {
        return c >= '0' && c <= '7';
    }

    private static boolean isLetter(int c) {
        return c >= 'a' && c <= 'z' || c >= 'A' && c <= 'Z';
    }

    private static boolean isNameByte(int c) {
        return c >= 'a' && c <= 'z' || c >= 'A' && c <= 'Z' || c >= '0' && c <= '9' || c == '_';
    }

    /** The value of a hexadecimal digit, or -1. */
    private static int hexValue(int c) {
        if (c >= '0' && c <= '9') {
            return c - '0';
        }
        if (c >= 'a' && c <= 'f') {
            return c - 'a' + 10;
        }
        return c >= 'A' && c <= 'F' ? c - 'A' + 10 : -1;
    }

    /** Whether a list's element with this byte can't stand as it is. */
    private static boolean isSpecial(int c) {
        switch (c) {
            case '"':
            case '{':
            case '}':
            case '[':
            case ']':
            case '$':
            case ';':
            case '\\':
                return true;
            default:
                return c >= 9 && c <= 13 || c == 32;
        }
    }

    /** A row of bytes that never changes; it may be a piece of a longer row, which is then shared. */
    private static final class Text {
        private final byte[] bytes;
        private final int from;
        final int size;

        /** The caller sees to it that the piece lies within the bytes. */
        Text(byte[] bytes, int from, int size) {
            this.bytes = bytes;
            this.from = from;
            this.size = size;
        }

        /** The byte there, or -1 outside, so that readers need not look for the end first. */
        int at(int i) {
            return i >= 0 && i < size ? bytes[from + i] & 255 : -1;
        }

        Text part(int start, int stop) {
            int first = Math.max(0, Math.min(start, size));
            int last = Math.max(first, Math.min(stop, size));
            return new Text(bytes, from + first, last - first);
        }

        boolean same(Text other) {
            if (other.size != size) {
                return false;
            }
            for (int i = 0; i < size; i++) {
                if (bytes[from + i] != other.bytes[other.from + i]) {
                    return false;
                }
            }
            return true;
        }

        boolean is(String word) {
            if (word.length() != size) {
                return false;
            }
            for (int i = 0; i < size; i++) {
                if ((bytes[from + i] & 255) != word.charAt(i)) {
                    return false;
                }
            }
            return true;
        }

        /** -1, 0, 1 by bytes; a beginning of a text is ahead of it. */
        int order(Text other) {
            int shared = Math.min(size, other.size);
            for (int i = 0; i < shared; i++) {
                int mine = bytes[from + i] & 255;
                int its = other.bytes[other.from + i] & 255;
                if (mine != its) {
                    return mine < its ? -1 : 1;
                }
            }
            return Integer.compare(size, other.size);
        }

        /** Where the byte is, from one place up to another, or -1. */
        int find(int c, int start, int stop) {
            for (int i = Math.max(0, start); i < stop && i < size; i++) {
                if ((bytes[from + i] & 255) == c) {
                    return i;
                }
            }
            return -1;
        }

        boolean holdsAt(int place, Text other) {
            if (place < 0 || place > size - other.size) {
                return false;
            }
            for (int i = 0; i < other.size; i++) {
                if (bytes[from + place + i] != other.bytes[other.from + i]) {
                    return false;
                }
            }
            return true;
        }

        int behindBlanks(int start) {
            int pos = start;
            while (pos < size && isBlank(at(pos))) {
                pos++;
            }
            return pos;
        }

        int behindWhite(int start) {
            int pos = start;
            while (pos < size && isWhite(at(pos))) {
                pos++;
            }
            return pos;
        }

        int behindName(int start) {
            int pos = start;
            while (pos < size && isNameByte(at(pos))) {
                pos++;
            }
            return pos;
        }

        Text trimmed() {
            int first = behindWhite(0);
            int last = size;
            while (last > first && isWhite(at(last - 1))) {
                last--;
            }
            return part(first, last);
        }

        /** Whether there is a byte, and all are digits, from a place on. */
        boolean digitsFrom(int start) {
            int pos = start;
            while (pos < size && isDigit(at(pos))) {
                pos++;
            }
            return pos == size && start < size;
        }

        /** The number that digits tell; what is too great for any use is told as a million. */
        int smallNumber(int start) {
            int value = 0;
            for (int i = start; i < size; i++) {
                value = Math.min(1000000, value * 10 + at(i) - '0');
            }
            return value;
        }

        /** Where the brace that is open at the place is closed, or -1. */
        int closingBrace(int start) {
            int open = 1;
            for (int pos = start; pos < size; pos++) {
                int c = at(pos);
                if (c == '\\') {
                    pos++;
                } else if (c == '{') {
                    open++;
                } else if (c == '}') {
                    open--;
                    if (open == 0) {
                        return pos;
                    }
                }
            }
            return -1;
        }

        /** Behind a backslash and all that goes with it. */
        int behindEscape(int pos) {
            int c = at(pos + 1);
            if (c < 0) {
                return pos + 1;
            }
            int end = pos + 2;
            if (c == 10) {
                while (end < size && isBlank(at(end))) {
                    end++;
                }
                return end;
            }
            if (isOctal(c)) {
                while (end < pos + 4 && isOctal(at(end))) {
                    end++;
                }
                return end;
            }
            if (c == 'x' && hexValue(at(pos + 2)) >= 0) {
                return hexValue(at(pos + 3)) >= 0 ? pos + 4 : pos + 3;
            }
            return pos + 2;
        }

        /** The byte that a backslash and what goes with it stand for; end is behind them. */
        int escaped(int pos, int end) {
            int c = at(pos + 1);
            if (isOctal(c)) {
                int value = 0;
                for (int i = pos + 1; i < end; i++) {
                    value = value * 8 + at(i) - '0';
                }
                return value & 255;
            }
            switch (c) {
                case -1:
                    return '\\';
                case 10:
                    return 32;
                case 'a':
                    return 7;
                case 'b':
                    return 8;
                case 'f':
                    return 12;
                case 'n':
                    return 10;
                case 'r':
                    return 13;
                case 't':
                    return 9;
                case 'v':
                    return 11;
                case 'x':
                    if (end == pos + 2) {
                        return 'x';
                    }
                    return end == pos + 3 ? hexValue(at(pos + 2))
                            : hexValue(at(pos + 2)) * 16 + hexValue(at(pos + 3));
                default:
                    return c;
            }
        }
    }

    /**
     * Makes texts, messages and lists, takes lists apart, reads wholes, and keeps what the latest
     * command ended with. A LIMIT is kept here too: what makes a text meets one at any byte.
     */
    private static final class Scribe {
        static final int LONGEST = 4000;
        static final int MOST_WORK = 150000;

        final Text empty = new Text(new byte[0], 0, 0);
        private final Text zero = new Text(new byte[] {'0'}, 0, 1);
        private final Text one = new Text(new byte[] {'1'}, 0, 1);
        int limit;
        int code;
        int told;
        Text result = empty;
        int work;
        /** The whole that was read last. */
        long whole;
        /** The elements of the list that was taken apart last. */
        Text[] elements = new Text[64];
        int elementCount;
        /** Where the element of a list that was found last begins, and where it is over. */
        private int elementFrom;
        private int elementTo;
        /** Texts that are being made, one behind the other; the last one begins at the mark. */
        private byte[] bytes = new byte[1024];
        int length;
        int mark;

        void stop(int which) {
            if (limit == 0) {
                limit = which;
            }
        }

        boolean spend(int effort) {
            if (limit != 0 || work + effort > MOST_WORK) {
                stop(1);
                return false;
            }
            work += effort;
            return true;
        }

        void succeed(Text made) {
            code = 0;
            result = made;
        }

        boolean fail(String message) {
            return fail(message, empty, null, "");
        }

        boolean fail(String ahead, Text name) {
            return fail(ahead, name, null, "");
        }

        /** Ends with an error; a key stands in parentheses behind the name. It answers false. */
        boolean fail(String ahead, Text name, Text key, String behind) {
            int keySize = key == null ? 0 : key.size + 2;
            int total = ahead.length() + name.size + keySize + behind.length();
            if (total > LONGEST) {
                limit = limit == 0 ? 2 : limit;
                return false;
            }
            byte[] made = new byte[total];
            copyWord(ahead, made, 0);
            int place = ahead.length();
            System.arraycopy(name.bytes, name.from, made, place, name.size);
            place += name.size;
            if (key != null) {
                made[place] = '(';
                System.arraycopy(key.bytes, key.from, made, place + 1, key.size);
                made[place + key.size + 1] = ')';
            }
            copyWord(behind, made, total - behind.length());
            code = 1;
            result = new Text(made, 0, total);
            return false;
        }

        private static void copyWord(String word, byte[] target, int place) {
            for (int i = 0; i < word.length() && place + i < target.length; i++) {
                target[place + i] = (byte) word.charAt(i);
            }
        }

        /** Begins a text; the answer is the mark of the one that goes on behind it. */
        int begin() {
            int outer = mark;
            mark = length;
            return outer;
        }

        /** The text that was begun last, which is empty if a LIMIT was met. */
        Text take(int outer) {
            Text made = empty;
            if (length > mark && limit == 0) {
                made = new Text(Arrays.copyOfRange(bytes, mark, length), 0, length - mark);
            }
            length = mark;
            mark = outer;
            return made;
        }

        void add(int c) {
            if (length - mark >= LONGEST) {
                limit = limit == 0 ? 2 : limit;
                return;
            }
            if (length >= bytes.length) {
                bytes = Arrays.copyOf(bytes, bytes.length * 2);
            }
            bytes[length++] = (byte) c;
        }

        void add(Text text) {
            addPart(text, 0, text.size);
        }

        /** Adds a piece that lies within the text. */
        private void addPart(Text text, int first, int behind) {
            int size = behind - first;
            if (length - mark + size > LONGEST) {
                limit = limit == 0 ? 2 : limit;
                return;
            }
            if (length + size > bytes.length) {
                bytes = Arrays.copyOf(bytes, bytes.length * 2 + size);
            }
            System.arraycopy(text.bytes, text.from + first, bytes, length, size);
            length += size;
        }

        /** Adds an element to the list that is being made. */
        void addElement(Text text) {
            int start = beginElement();
            add(text);
            quote(start);
        }

        /** Adds all elements of a text that is a list; no texts are made of them. */
        void addElements(Text list) {
            int pos = list.behindWhite(0);
            for (int turn = 0; turn < LONGEST && pos < list.size && limit == 0; turn++) {
                boolean braced = list.at(pos) == '{';
                pos = nextElement(list, pos);
                if (pos < 0) {
                    return;
                }
                int start = beginElement();
                if (braced) {
                    addPart(list, elementFrom, elementTo);
                } else {
                    addUnescaped(list, elementFrom, elementTo);
                }
                quote(start);
            }
        }

        /** Puts a blank behind what the list has; the answer is where its next element begins. */
        private int beginElement() {
            if (length > mark) {
                add(' ');
            }
            return length;
        }

        /** Gives what was added from a place on the form that an element has in a list. */
        private void quote(int start) {
            int size = length - start;
            int specials = 0;
            for (int i = start; i < length; i++) {
                if (isSpecial(bytes[i]) || i == start && bytes[i] == '#') {
                    specials++;
                }
            }
            boolean braced = size == 0 || specials > 0 && hasPairs(start);
            int more = braced ? 2 : specials;
            for (int i = 0; i < more; i++) {
                add('}');
            }
            if (limit != 0) {
                return;
            }
            if (braced) {
                System.arraycopy(bytes, start, bytes, start + 1, size);
                bytes[start] = '{';
                return;
            }
            // From the right, as the bytes move there; where none is to be moved more it is done.
            int to = length - 1;
            for (int from = start + size - 1; from >= start && to > from; from--) {
                int c = bytes[from];
                bytes[to--] = (byte) (c >= 9 && c <= 13 ? "tnvfr".charAt(c - 9) : c);
                if (isSpecial(c) || from == start && c == '#') {
                    bytes[to--] = '\\';
                }
            }
        }

        private boolean hasPairs(int start) {
            int open = 0;
            for (int i = start; i < length; i++) {
                int c = bytes[i];
                if (c == '{') {
                    open++;
                } else if (c == '}') {
                    open--;
                }
                if (c == '\\' || open < 0) {
                    return false;
                }
            }
            return open == 0;
        }

        /** A list of the texts from one place of a row up to another. */
        Text list(Text[] row, int first, int behind) {
            int outer = begin();
            for (int i = Math.max(0, first); i < behind && i < row.length && limit == 0; i++) {
                addElement(row[i]);
            }
            return take(outer);
        }

        Text concat(Text[] row, int first, int behind) {
            int outer = begin();
            for (int i = Math.max(0, first); i < behind && i < row.length && limit == 0; i++) {
                Text piece = row[i].trimmed();
                if (piece.size > 0) {
                    if (length > mark) {
                        add(' ');
                    }
                    add(piece);
                }
            }
            return take(outer);
        }

        Text digits(long value) {
            if (value == 0 || value == 1) {
                return value == 0 ? zero : one;
            }
            int sign = value < 0 ? 1 : 0;
            int width = sign;
            for (long rest = value; rest != 0 && width < 20; rest /= 10) {
                width++;
            }
            byte[] made = new byte[width];
            long rest = value;
            for (int i = width - 1; i >= sign; i--) {
                made[i] = (byte) ('0' + Math.abs((int) (rest % 10)));
                rest /= 10;
            }
            if (sign == 1) {
                made[0] = '-';
            }
            return new Text(made, 0, width);
        }

        /** Whether the text is a WHOLE; then its value is kept. */
        boolean isWhole(Text text) {
            int pos = 0;
            while (pos < text.size && isWhite(text.at(pos))) {
                pos++;
            }
            int sign = text.at(pos);
            if (sign == '-' || sign == '+') {
                pos++;
            }
            int base = 10;
            if (text.at(pos) == '0' && text.at(pos + 1) == 'x') {
                base = 16;
                pos += 2;
            }
            int first = pos;
            // The value is reckoned below 0, because there is one number more on that side.
            long value = 0;
            for (; pos < text.size; pos++) {
                int digit = hexValue(text.at(pos));
                if (digit < 0 || digit >= base) {
                    break;
                }
                if (value < Long.MIN_VALUE / base || value * base < Long.MIN_VALUE + digit) {
                    return false;
                }
                value = value * base - digit;
            }
            if (pos == first) {
                return false;
            }
            while (pos < text.size && isWhite(text.at(pos))) {
                pos++;
            }
            if (pos < text.size) {
                return false;
            }
            if (sign != '-' && value == Long.MIN_VALUE) {
                return false;
            }
            whole = sign == '-' ? value : -value;
            return true;
        }

        boolean wantWhole(Text text) {
            return isWhole(text) || fail("no whole: ", text, null, "");
        }

        /** 1 or 0 for a truth; -1 for what is none. */
        int truth(Text text) {
            if (isWhole(text)) {
                return whole != 0 ? 1 : 0;
            }
            return text.is("true") ? 1 : text.is("false") ? 0 : -1;
        }

        /** The text of a braced word, of which only \ and 10 are not what they are. */
        Text braced(Text text, int first, int behind) {
            if (text.find('\\', first, behind) < 0) {
                return text.part(first, behind);
            }
            int outer = begin();
            int pos = first;
            for (int turn = first; turn < behind && pos < behind; turn++) {
                int c = text.at(pos);
                int next = text.at(pos + 1);
                if (c == '\\' && next == 10) {
                    add(32);
                    pos = text.behindBlanks(pos + 2);
                } else if (c == '\\' && pos + 1 < behind) {
                    add(c);
                    add(next);
                    pos += 2;
                } else {
                    add(c);
                    pos++;
                }
            }
            return take(outer);
        }

        /** Whether the text is a list; then its elements are kept. Else it is an error. */
        boolean split(Text list) {
            elementCount = 0;
            int pos = list.behindWhite(0);
            for (int turn = 0; turn < LONGEST && pos < list.size; turn++) {
                boolean braced = list.at(pos) == '{';
                pos = nextElement(list, pos);
                if (pos < 0) {
                    return fail("no list", empty, null, "");
                }
                if (braced || list.find('\\', elementFrom, elementTo) < 0) {
                    keep(list.part(elementFrom, elementTo));
                } else {
                    int outer = begin();
                    addUnescaped(list, elementFrom, elementTo);
                    keep(take(outer));
                }
            }
            return true;
        }

        /** Whether the text is a list, else it is an error; nothing is kept, and nothing made. */
        boolean wantList(Text list) {
            int pos = list.behindWhite(0);
            for (int turn = 0; turn < LONGEST && pos >= 0 && pos < list.size; turn++) {
                pos = nextElement(list, pos);
            }
            return pos >= 0 || fail("no list", empty, null, "");
        }

        /** Finds the element there; the answer is where the next one is, or -1 for no list. */
        private int nextElement(Text list, int pos) {
            int c = list.at(pos);
            boolean quoted = c == '"';
            boolean marked = quoted || c == '{';
            elementFrom = marked ? pos + 1 : pos;
            int end = c == '{' ? list.closingBrace(elementFrom) : elementFrom;
            for (int turn = end; c != '{' && turn < list.size && end < list.size
                    && !(quoted ? list.at(end) == '"' : isWhite(list.at(end))); turn++) {
                end = list.at(end) == '\\' ? list.behindEscape(end) : end + 1;
            }
            elementTo = end;
            if (end < 0 || quoted && end >= list.size) {
                return -1;
            }
            int behind = marked ? end + 1 : end;
            int next = list.behindWhite(behind);
            return next > behind || next >= list.size ? next : -1;
        }

        private void addUnescaped(Text list, int first, int behind) {
            int pos = first;
            for (int turn = first; turn < behind && pos < behind; turn++) {
                if (list.at(pos) == '\\') {
                    int end = list.behindEscape(pos);
                    add(list.escaped(pos, end));
                    pos = end;
                } else {
                    add(list.at(pos));
                    pos++;
                }
            }
        }

        private void keep(Text element) {
            if (elementCount >= elements.length) {
                Text[] more = new Text[elements.length * 2];
                System.arraycopy(elements, 0, more, 0, elementCount);
                elements = more;
            }
            elements[elementCount++] = element;
        }

        /** Where the kept elements have this text, or -1. */
        int placeOf(Text text) {
            for (int i = 0; i < elementCount; i++) {
                if (elements[i].same(text)) {
                    return i;
                }
            }
            return -1;
        }
    }

    /** A variable that is an array or was linked; for all others a text in a row is enough. */
    private static final class Variable {
        private final boolean ofArray;
        /** Null while it is UNSET, or an array. */
        Text text;
        boolean isArray;
        Names elements;

        Variable(boolean ofArray, Text text) {
            this.ofArray = ofArray;
            this.text = text;
        }

        /** Makes it an array, if it may be one; an element is never an array. */
        boolean becomeArray() {
            if (text == null && !ofArray) {
                if (elements == null) {
                    elements = new Names(true);
                }
                isArray = true;
            }
            return isArray;
        }

        void unset() {
            if (isArray) {
                elements.clear();
            }
            isArray = false;
            text = null;
        }
    }

    /**
     * The names of a frame, or the elements of an array, in the order in which they became known.
     * WORK does not grow by each name that is written, so that this makes as few objects as it can:
     * a variable has one of its own only where it is an array or is linked.
     */
    private static final class Names {
        static final int MOST = 100;
        static final int UNSET = 0;
        static final int WRITTEN = 1;
        static final int ARRAY = 2;

        private final boolean ofArray;
        Text[] names = new Text[8];
        /** The texts of those that have no object; null for one that is UNSET. */
        private Text[] texts = new Text[8];
        /** Those that have an object, and which of these are links; null until there is one. */
        private Variable[] variables;
        private boolean[] links;
        int known;
        int level;
        Names caller;

        Names(boolean ofArray) {
            this.ofArray = ofArray;
        }

        /**
         * Makes it a new frame, called from another. Links lead to frames that are open alone, so
         * that the objects of the frame that was here can be used again.
         */
        void open(Names from) {
            for (int i = 0; i < known && variables != null; i++) {
                if (links != null && links[i]) {
                    variables[i] = null;
                } else if (variables[i] != null) {
                    variables[i].unset();
                }
            }
            known = 0;
            level = from.level + 1;
            caller = from;
        }

        int indexOf(Text name) {
            for (int i = 0; i < known; i++) {
                if (names[i].same(name)) {
                    return i;
                }
            }
            return -1;
        }

        private Variable objectAt(int i) {
            return variables != null && i >= 0 && i < known ? variables[i] : null;
        }

        int stateAt(int i) {
            if (i < 0 || i >= known) {
                return UNSET;
            }
            Variable object = objectAt(i);
            if (object != null && object.isArray) {
                return ARRAY;
            }
            return (object != null ? object.text : texts[i]) == null ? UNSET : WRITTEN;
        }

        /** The text there, which is not UNSET and no array. */
        Text textAt(int i) {
            Variable object = objectAt(i);
            return object != null ? object.text : texts[i];
        }

        /** The elements of the array there; null if there is none. */
        Names elementsAt(int i) {
            Variable object = objectAt(i);
            return object != null && object.isArray ? object.elements : null;
        }

        void writeAt(int i, Text value) {
            Variable object = objectAt(i);
            if (object != null) {
                object.text = value;
            } else {
                texts[i] = value;
            }
        }

        void unsetAt(int i) {
            Variable object = objectAt(i);
            if (object != null) {
                object.unset();
            } else {
                texts[i] = null;
            }
        }

        /** All are UNSET and not known any more; those that are linked live on by themselves. */
        void clear() {
            for (int i = 0; i < known && variables != null; i++) {
                if (variables[i] != null) {
                    variables[i].text = null;
                    variables[i] = null;
                }
            }
            known = 0;
        }

        /** The variable there as an object. */
        Variable variableAt(int i) {
            if (variables == null) {
                variables = new Variable[names.length];
            }
            if (variables[i] == null) {
                variables[i] = new Variable(ofArray, texts[i]);
            }
            return variables[i];
        }

        /** The place of a name that was not known; -1 if a LIMIT is met. */
        int admit(Text name, Scribe scribe) {
            if (known >= MOST) {
                scribe.stop(3);
                return -1;
            }
            makeRoom();
            names[known] = name;
            texts[known] = null;
            if (links != null) {
                links[known] = false;
            }
            known++;
            return known - 1;
        }

        private void makeRoom() {
            if (known < names.length) {
                return;
            }
            Text[] moreNames = new Text[MOST];
            Text[] moreTexts = new Text[MOST];
            System.arraycopy(names, 0, moreNames, 0, known);
            System.arraycopy(texts, 0, moreTexts, 0, known);
            names = moreNames;
            texts = moreTexts;
            if (variables != null) {
                Variable[] moreVariables = new Variable[MOST];
                System.arraycopy(variables, 0, moreVariables, 0, known);
                variables = moreVariables;
            }
            if (links != null) {
                boolean[] moreLinks = new boolean[MOST];
                System.arraycopy(links, 0, moreLinks, 0, known);
                links = moreLinks;
            }
        }

        /** Makes the name a link, if it may be one. */
        boolean link(Text name, Variable other, Scribe scribe) {
            if (links == null) {
                links = new boolean[names.length];
            }
            int i = indexOf(name);
            if (i < 0) {
                i = admit(name, scribe);
            } else if (objectAt(i) == other) {
                return scribe.fail("", name, null, " is itself");
            } else if (!links[i] && stateAt(i) != UNSET) {
                return scribe.fail("", name, null, " is there already");
            }
            if (i < 0) {
                return false;
            }
            if (variables == null) {
                variables = new Variable[names.length];
            }
            variables[i] = other;
            links[i] = true;
            return true;
        }
    }

    /** A command of the core, or a procedure. */
    private static final class Command {
        static final String NAMES = "set unset incr append lappend proc return break continue error catch eval expr if while for foreach switch upvar uplevel global list lindex llength lrange lreverse lsearch lsort lassign concat join split string array info rename puts subst";
        /** The least arguments of each, as the names go. */
        static final int[] LEAST = {
            1, 0, 1, 1, 1, 3, 0, 0, 0, 1,
            1, 1, 1, 0, 2, 4, 3, 2, 2, 1, 0,
            0, 2, 1, 3, 1, 2, 1, 1, 0, 1, 1,
            1, 1, 1, 2, 1, 1};
        /** The most arguments; -1: any number. */
        static final int[] MOST = {
            2, -1, 2, -1, -1, 3, 3, 0, 0, 1,
            2, -1, -1, -1, 2, 4, -1, 2, -1, -1, -1,
            -1, 2, 1, 3, 1, 2, 3, -1, -1, 2, 2,
            -1, -1, -1, 2, 2, 1};
        static final int SET = 0;
        static final int UNSET = 1;
        static final int INCR = 2;
        static final int APPEND = 3;
        static final int LAPPEND = 4;
        static final int PROC = 5;
        static final int RETURN = 6;
        static final int BREAK = 7;
        static final int CONTINUE = 8;
        static final int ERROR = 9;
        static final int CATCH = 10;
        static final int EVAL = 11;
        static final int EXPR = 12;
        static final int IF = 13;
        static final int WHILE = 14;
        static final int FOR = 15;
        static final int FOREACH = 16;
        static final int SWITCH = 17;
        static final int UPVAR = 18;
        static final int UPLEVEL = 19;
        static final int GLOBAL = 20;
        static final int LIST = 21;
        static final int LINDEX = 22;
        static final int LLENGTH = 23;
        static final int LRANGE = 24;
        static final int LREVERSE = 25;
        static final int LSEARCH = 26;
        static final int LSORT = 27;
        static final int LASSIGN = 28;
        static final int CONCAT = 29;
        static final int JOIN = 30;
        static final int SPLIT = 31;
        static final int STRING = 32;
        static final int ARRAY = 33;
        static final int INFO = 34;
        static final int RENAME = 35;
        static final int PUTS = 36;
        static final int SUBST = 37;
        static final int PROCEDURE = 38;

        final int kind;
        Text name;
        /** Of a procedure: its parameters, their values (null where there is none), its body. */
        Text[] params;
        Text[] values;
        Text body;

        Command(int kind, Text name) {
            this.kind = kind;
            this.name = name;
        }

        /** Whether the first argument is a list that is taken apart ahead of all else. */
        static boolean isOnElements(int kind) {
            return kind >= LINDEX && kind <= LSEARCH || kind == LASSIGN || kind == JOIN;
        }

        boolean takes(int given) {
            return kind >= 0 && kind < LEAST.length && kind < MOST.length
                    && given >= LEAST[kind] && (MOST[kind] < 0 || given <= MOST[kind]);
        }

        /** Of a procedure: whether its last parameter takes all the words that are left. */
        boolean takesRest() {
            int last = params.length - 1;
            return last >= 0 && values[last] == null && params[last].is("args");
        }

        /** Of a procedure: whether each of so many words has a parameter, and each of those a value. */
        boolean fits(int given) {
            boolean rest = takesRest();
            int single = rest ? params.length - 1 : params.length;
            for (int i = given; i < single; i++) {
                if (values[i] == null) {
                    return false;
                }
            }
            return rest || given <= single;
        }
    }

    /** The commands and the frames, and the variables by their names. */
    private static final class Store {
        static final int MOST_COMMANDS = 150;
        static final int MOST_FRAMES = 41;

        private final Scribe scribe;
        private final Command[] commands = new Command[MOST_COMMANDS];
        int commandCount;
        final Names[] frames = new Names[MOST_FRAMES];
        /** The frame at hand. */
        Names frame;
        /** The name at hand, split; the key is null if it is no element's. */
        Text array;
        Text key;
        /** Where the variable was found: in a frame or an array, and at which place. */
        private Names where;
        private int place;

        Store(Scribe scribe) {
            this.scribe = scribe;
            for (int i = 0; i < MOST_FRAMES; i++) {
                frames[i] = new Names(false);
            }
            frame = frames[0];
            where = frame;
            int start = 0;
            for (int i = 0; i <= Command.NAMES.length(); i++) {
                if (i == Command.NAMES.length() || Command.NAMES.charAt(i) == ' ') {
                    byte[] name = new byte[i - start];
                    for (int k = start; k < i; k++) {
                        name[k - start] = (byte) Command.NAMES.charAt(k);
                    }
                    commands[commandCount] = new Command(commandCount, new Text(name, 0, i - start));
                    commandCount++;
                    start = i + 1;
                }
            }
        }

        Command command(Text name) {
            for (int i = 0; i < commandCount; i++) {
                if (commands[i].name.same(name)) {
                    return commands[i];
                }
            }
            return null;
        }

        void define(Command made) {
            for (int i = 0; i < commandCount; i++) {
                if (commands[i].name.same(made.name)) {
                    commands[i] = made;
                    return;
                }
            }
            if (commandCount >= MOST_COMMANDS) {
                scribe.stop(3);
                return;
            }
            commands[commandCount++] = made;
        }

        void forget(Command old) {
            for (int i = 0; i < commandCount; i++) {
                if (commands[i] == old) {
                    commandCount--;
                    commands[i] = commands[commandCount];
                    return;
                }
            }
        }

        /** Takes a name at hand, as it was told; whether it is an element's. */
        boolean name(Text told) {
            array = told;
            key = null;
            int open = told.at(told.size - 1) == ')' ? told.find('(', 0, told.size) : -1;
            if (open >= 0) {
                array = told.part(0, open);
                key = told.part(open + 1, told.size - 1);
            }
            return key != null;
        }

        /** Takes a name at hand that is split already. */
        void nameParts(Text arrayName, Text elementName) {
            array = arrayName;
            key = elementName;
        }

        /** Finds the variable at hand; the answer is its state. */
        int seek() {
            where = frame;
            place = where.indexOf(array);
            int state = where.stateAt(place);
            if (key == null || state == Names.UNSET) {
                return state;
            }
            Names elements = where.elementsAt(place);
            if (elements == null) {
                return Names.UNSET;
            }
            where = elements;
            place = where.indexOf(key);
            return where.stateAt(place);
        }

        /** Finds it, if it has a text (or, where it may be, is an array); else it is an error. */
        private boolean find(boolean mayBeArray) {
            where = frame;
            place = where.indexOf(array);
            int state = where.stateAt(place);
            if (state == Names.UNSET) {
                return scribe.fail("no variable ", array, key, "");
            }
            if (key == null) {
                return state == Names.WRITTEN || mayBeArray
                        || scribe.fail("", array, null, " is an array");
            }
            Names elements = where.elementsAt(place);
            if (elements == null) {
                return scribe.fail("", array, null, " is no array");
            }
            where = elements;
            place = where.indexOf(key);
            return where.stateAt(place) != Names.UNSET || scribe.fail("no element ", array, key, "");
        }

        /** The elements of the array at hand; null if it is none. */
        Names elements() {
            return frame.elementsAt(frame.indexOf(array));
        }

        /** The value of the name at hand; null, and an error, if it has none. */
        Text read() {
            return find(false) ? where.textAt(place) : null;
        }

        /** The value, or another one where it, or an element's array, is not known or UNSET. */
        Text readOr(Text other) {
            int holder = frame.stateAt(frame.indexOf(array));
            boolean none = holder == Names.UNSET
                    || holder == Names.ARRAY && key != null && seek() == Names.UNSET;
            return none ? other : find(false) ? where.textAt(place) : null;
        }

        boolean unset() {
            if (!find(true)) {
                return false;
            }
            where.unsetAt(place);
            return true;
        }

        /** Makes the variable at hand known to a frame; false, and an error or LIMIT, if it can't be. */
        boolean obtain(Names in) {
            where = in;
            place = in.indexOf(array);
            if (place < 0) {
                place = in.admit(array, scribe);
            }
            if (place < 0 || key == null) {
                return place >= 0;
            }
            Variable holder = in.variableAt(place);
            if (!holder.becomeArray()) {
                return scribe.fail("", array, null, " is no array");
            }
            where = holder.elements;
            place = where.indexOf(key);
            if (place < 0) {
                place = where.admit(key, scribe);
            }
            return place >= 0;
        }

        /** The variable that was obtained last. */
        Variable obtained() {
            return where.variableAt(place);
        }

        boolean write(Text value) {
            if (!obtain(frame)) {
                return false;
            }
            if (where.stateAt(place) == Names.ARRAY) {
                return scribe.fail("", array, null, " is an array");
            }
            where.writeAt(place, value);
            return true;
        }

        /** Whether a text tells a level: digits, or # and digits. */
        boolean isLevel(Text told) {
            return told.digitsFrom(told.at(0) == '#' ? 1 : 0);
        }

        /** The frame of a level; null, and an error, if there is none. */
        Names frameAt(Text told) {
            boolean absolute = told.at(0) == '#';
            Names found = null;
            if (isLevel(told)) {
                int number = told.smallNumber(absolute ? 1 : 0);
                int level = absolute ? number : frame.level - number;
                found = frame;
                while (found != null && found.level > level) {
                    found = found.caller;
                }
                if (found != null && found.level != level) {
                    found = null;
                }
            }
            if (found == null) {
                scribe.fail("no level: ", told, null, "");
            }
            return found;
        }
    }

    /** Reads commands and parts to see where they end, and tells what is missing. */
    private static final class Reader {
        static final int DEEPEST = 20;
        // What parts go up to, beside a quote and a parenthesis.
        private static final int WORD_END = 1;
        private static final int WORD_END_INSIDE = 2;
        private static final int TEXT_END = 3;
        private static final int SEPARATOR = 1;
        private static final int END = 2;

        private Text text;
        /** What is wrong with what was read last, and whether it was too deep. */
        String error = "";
        boolean deep;

        private void take(Text read) {
            text = read;
            error = "";
            deep = false;
        }

        /** Passes over all that may stand ahead of a command. */
        int commandStart(Text read, int pos) {
            take(read);
            return skip(pos);
        }

        /** The end of the command there; -1 if it lacks something. */
        int commandEnd(Text read, int pos) {
            take(read);
            return command(pos, false, 0);
        }

        /** Where the next word of the command stands, or its end. */
        int wordStart(Text read, int pos) {
            take(read);
            return skipSeparators(pos);
        }

        boolean endsAt(Text read, int pos) {
            take(read);
            return breakAt(pos, false) == END;
        }

        boolean expandsAt(Text read, int pos) {
            take(read);
            return hasStar(pos) && breakAt(pos + 3, false) == 0;
        }

        /** The end of a word, behind what tells that it is expanded. */
        int wordEnd(Text read, int pos) {
            take(read);
            return word(pos, false, 0);
        }

        int partEnd(Text read, int pos) {
            take(read);
            return part(pos, 0);
        }

        int quoteEnd(Text read, int pos) {
            take(read);
            return parts(pos, '"', 0);
        }

        int braceEnd(Text read, int pos) {
            take(read);
            int close = text.closingBrace(pos);
            return close < 0 ? lacks("missing brace") : close;
        }

        int textEnd(Text read) {
            take(read);
            return parts(0, TEXT_END, 0);
        }

        private int lacks(String what) {
            error = what;
            return -1;
        }

        private int tooDeep() {
            deep = true;
            return -1;
        }

        private int skip(int start) {
            int pos = start;
            boolean note = false;
            while (pos < text.size) {
                int c = text.at(pos);
                if (note) {
                    note = c != 10;
                    pos += c == '\\' ? 2 : 1;
                } else if (c == '\\' && text.at(pos + 1) == 10) {
                    pos += 2;
                } else if (c == '#' || c == 10 || c == ';' || isBlank(c)) {
                    note = c == '#';
                    pos++;
                } else {
                    return pos;
                }
            }
            return text.size;
        }

        private int skipSeparators(int start) {
            int pos = start;
            while (pos < text.size && breakAt(pos, false) == SEPARATOR) {
                pos += text.at(pos) == '\\' ? 2 : 1;
            }
            return pos;
        }

        /** What ends a word there: a SEPARATOR, the END of its command, or 0 for nothing. */
        private int breakAt(int pos, boolean inside) {
            int c = text.at(pos);
            if (c < 0 || c == 10 || c == ';' || inside && c == ']') {
                return END;
            }
            return isBlank(c) || c == '\\' && text.at(pos + 1) == 10 ? SEPARATOR : 0;
        }

        private boolean hasStar(int pos) {
            return text.at(pos) == '{' && text.at(pos + 1) == '*' && text.at(pos + 2) == '}';
        }

        /** Behind the ] that ends the script; depth tells how many of [ and KEYS are open. */
        private int script(int start, int depth) {
            if (depth > DEEPEST) {
                return tooDeep();
            }
            int pos = skip(start);
            for (int turn = 0; turn <= text.size && pos >= 0; turn++) {
                if (text.at(pos) == ']') {
                    return pos + 1;
                }
                if (text.at(pos) < 0) {
                    return lacks("missing bracket");
                }
                pos = command(pos, true, depth);
                pos = pos < 0 ? -1 : skip(pos);
            }
            return -1;
        }

        private int command(int start, boolean inside, int depth) {
            int pos = start;
            for (int turn = 0; turn <= text.size && pos >= 0; turn++) {
                int found = breakAt(pos, inside);
                if (found == END) {
                    return pos;
                }
                if (found == SEPARATOR) {
                    pos += text.at(pos) == '\\' ? 2 : 1;
                } else {
                    boolean expands = hasStar(pos) && breakAt(pos + 3, inside) == 0;
                    pos = word(expands ? pos + 3 : pos, inside, depth);
                }
            }
            return -1;
        }

        private int word(int pos, boolean inside, int depth) {
            int c = text.at(pos);
            if (c != '{' && c != '"') {
                return parts(pos, inside ? WORD_END_INSIDE : WORD_END, depth);
            }
            int close = c == '{' ? text.closingBrace(pos + 1) : parts(pos + 1, '"', depth);
            if (close < 0) {
                return c == '{' ? lacks("missing brace") : -1;
            }
            if (breakAt(close + 1, inside) == 0) {
                return lacks(c == '{' ? "more behind brace" : "more behind quote");
            }
            return close + 1;
        }

        private int parts(int start, int goal, int depth) {
            int pos = start;
            for (int turn = 0; turn <= text.size && pos >= 0; turn++) {
                int c = text.at(pos);
                boolean reached = goal > TEXT_END ? c == goal
                        : goal == TEXT_END ? c < 0 : breakAt(pos, goal == WORD_END_INSIDE) != 0;
                if (reached) {
                    return pos;
                }
                if (c < 0) {
                    return lacks(goal == '"' ? "missing quote" : "missing parenthesis");
                }
                pos = part(pos, depth);
            }
            return -1;
        }

        /** Behind the part that begins there. */
        private int part(int pos, int depth) {
            switch (text.at(pos)) {
                case '[':
                    return script(pos + 1, depth + 1);
                case '$':
                    return variable(pos + 1, depth);
                case '\\':
                    return text.behindEscape(pos);
                default:
                    return pos + 1;
            }
        }

        private int variable(int pos, int depth) {
            if (text.at(pos) == '{') {
                int close = text.find('}', pos, text.size);
                return close < 0 ? lacks("missing brace") : close + 1;
            }
            int end = text.behindName(pos);
            if (end == pos || text.at(end) != '(') {
                return end;
            }
            if (depth >= DEEPEST) {
                return tooDeep();
            }
            int close = parts(end + 1, ')', depth + 1);
            return close < 0 ? -1 : close + 1;
        }
    }

    /**
     * Reads an expression into steps for a row of values, and works those. The steps of
     * expressions that are open in one another stand behind one another in one row.
     */
    private static final class Expression {
        static final int DEEPEST = 20;
        // Operators with two sides, as their precedences go; each is a step, too.
        private static final int OR = 1;
        private static final int AND = 2;
        private static final int BIT_OR = 3;
        private static final int BIT_XOR = 4;
        private static final int BIT_AND = 5;
        private static final int EQUAL = 6;
        private static final int UNEQUAL = 7;
        private static final int SAME = 8;
        private static final int OTHER = 9;
        private static final int IN = 10;
        private static final int NOT_IN = 11;
        private static final int LESS = 12;
        private static final int LESS_EQUAL = 13;
        private static final int MORE = 14;
        private static final int MORE_EQUAL = 15;
        private static final int LEFT = 16;
        private static final int RIGHT = 17;
        private static final int PLUS = 18;
        private static final int MINUS = 19;
        private static final int TIMES = 20;
        private static final int DIVIDE = 21;
        private static final int MODULO = 22;
        private static final int LAST_BINARY = 22;
        private static final int[] PRECEDENCE = {
            0, 1, 2, 3, 4, 5, 6, 6, 6, 6, 6, 6, 7, 7, 7, 7, 8, 8, 9, 9, 10, 10, 10};
        private static final int[] WIDTH = {
            0, 2, 2, 1, 1, 1, 2, 2, 2, 2, 2, 2, 1, 2, 1, 2, 2, 2, 1, 1, 1, 1, 1};
        // Signs ahead.
        private static final int NEGATE = 23;
        private static final int KEEP = 24;
        private static final int NOT = 25;
        private static final int INVERT = 26;
        // What else may be open.
        private static final int GROUP = 27;
        private static final int ABS = 28;
        private static final int MIN = 29;
        private static final int MAX = 30;
        private static final int ASK = 31;
        private static final int ELSE = 32;
        // Steps beside the operators; operands have two places behind them, the others one.
        static final int PLAIN = 33;
        static final int BRACED = 34;
        static final int PARTS = 35;
        private static final int JUMP = 36;
        private static final int JUMP_IF_FALSE = 37;
        private static final int OR_LEFT = 38;
        private static final int AND_LEFT = 39;
        private static final int TRUTH = 40;
        static final int END = 41;

        private final Scribe scribe;
        private final Reader reader;
        int[] steps = new int[256];
        int stepCount;
        /** Operators that wait for what is behind them, and of each a place or a number. */
        private final int[] open = new int[(DEEPEST + 2) * 12];
        private final int[] notes = new int[(DEEPEST + 2) * 12];
        private int openCount;
        private int depth;
        private Text text;
        private int pos;
        private boolean wantsOperand;
        /** The values; a text, or where that is null a whole. */
        private Text[] texts = new Text[64];
        private long[] wholes = new long[64];
        int valueCount;

        Expression(Scribe scribe, Reader reader) {
            this.scribe = scribe;
            this.reader = reader;
        }

        /** Reads it whole; false, with an error or a LIMIT, if it is none. */
        boolean read(Text read) {
            text = read;
            pos = 0;
            openCount = 0;
            depth = 0;
            wantsOperand = true;
            for (int turn = 0; turn <= read.size; turn++) {
                pos = text.behindWhite(pos);
                if (pos >= text.size) {
                    if (wantsOperand || settle() != 0) {
                        return refuse();
                    }
                    emit(END);
                    return true;
                }
                if (!(wantsOperand ? readOperand() : readOperator())) {
                    return false;
                }
                closeSigns();
            }
            return refuse();
        }

        private boolean refuse() {
            return scribe.fail("no expression: ", text, null, "");
        }

        private void emit(int number) {
            if (stepCount >= steps.length) {
                steps = Arrays.copyOf(steps, steps.length * 2);
            }
            steps[stepCount++] = number;
        }

        /** Emits a jump whose goal is told later; the answer is where. */
        private int emitJump(int step) {
            emit(step);
            emit(0);
            return stepCount - 1;
        }

        private void landHere(int place) {
            if (place >= 0 && place < stepCount) {
                steps[place] = stepCount;
            }
        }

        private boolean push(int operator, int note) {
            if (operator > LAST_BINARY) {
                if (depth >= DEEPEST) {
                    scribe.stop(4);
                    return false;
                }
                depth++;
            }
            if (openCount >= open.length) {
                scribe.stop(4);
                return false;
            }
            open[openCount] = operator;
            notes[openCount] = note;
            openCount++;
            return true;
        }

        private int topOpen() {
            return openCount > 0 ? open[openCount - 1] : 0;
        }

        /** Takes the last open operator, whose sides have all been read, to the steps. */
        private void close() {
            openCount--;
            int operator = open[openCount];
            int note = notes[openCount];
            if (operator > LAST_BINARY) {
                depth--;
            }
            if (operator == AND || operator == OR) {
                emit(TRUTH);
                landHere(note);
            } else if (operator == ELSE) {
                landHere(note);
            } else if (operator != GROUP) {
                emit(operator);
                if (operator == MIN || operator == MAX) {
                    emit(note);
                }
            }
        }

        private void closeBinaries(int precedence) {
            for (int left = openCount; left > 0 && topOpen() <= LAST_BINARY
                    && PRECEDENCE[topOpen()] >= precedence; left--) {
                close();
            }
        }

        /** Closes all that ends where a side ends; the answer is what stays open there. */
        private int settle() {
            for (int left = openCount; left > 0 && (topOpen() <= LAST_BINARY || topOpen() == ELSE); left--) {
                close();
            }
            return topOpen();
        }

        /** A sign's operand has been read as soon as an operator may come. */
        private void closeSigns() {
            for (int left = openCount; left > 0 && !wantsOperand && topOpen() >= NEGATE
                    && topOpen() <= INVERT; left--) {
                close();
            }
        }

        private boolean readOperand() {
            int c = text.at(pos);
            switch (c) {
                case '(':
                    pos++;
                    return push(GROUP, 0);
                case '-':
                    pos++;
                    return push(NEGATE, 0);
                case '+':
                    pos++;
                    return push(KEEP, 0);
                case '!':
                    pos++;
                    return push(NOT, 0);
                case '~':
                    pos++;
                    return push(INVERT, 0);
                case '"':
                    return operand(PARTS, pos + 1, reader.quoteEnd(text, pos + 1), 1);
                case '{':
                    return operand(BRACED, pos + 1, reader.braceEnd(text, pos + 1), 1);
                case '[':
                    return operand(PARTS, pos, reader.partEnd(text, pos), 0);
                case '$':
                    int next = text.at(pos + 1);
                    return next == '{' || isNameByte(next)
                            ? operand(PARTS, pos, reader.partEnd(text, pos), 0) : refuse();
                default:
                    return isDigit(c) ? readNumber() : readWord();
            }
        }

        /** An operand from one place to another, with a byte or none behind it. */
        private boolean operand(int kind, int first, int end, int closing) {
            if (end < 0) {
                if (reader.deep) {
                    scribe.stop(4);
                    return false;
                }
                return scribe.fail(reader.error, scribe.empty, null, "");
            }
            emit(kind);
            emit(first);
            emit(end);
            pos = end + closing;
            wantsOperand = false;
            return true;
        }

        private boolean readNumber() {
            int end = pos;
            while (end < text.size && (isDigit(text.at(end)) || isLetter(text.at(end)))) {
                end++;
            }
            return scribe.isWhole(text.part(pos, end)) ? operand(PLAIN, pos, end, 0) : refuse();
        }

        private boolean readWord() {
            int end = text.behindName(pos);
            Text word = text.part(pos, end);
            if (word.is("true") || word.is("false")) {
                return operand(PLAIN, pos, end, 0);
            }
            int function = word.is("abs") ? ABS : word.is("min") ? MIN : word.is("max") ? MAX : 0;
            int paren = text.behindWhite(end);
            if (function == 0 || text.at(paren) != '(') {
                return refuse();
            }
            pos = paren + 1;
            return push(function, 1);
        }

        private boolean readOperator() {
            int c = text.at(pos);
            switch (c) {
                case '?':
                    return readAsk();
                case ':':
                    return readElse();
                case ')':
                    return readClose();
                case ',':
                    return readComma();
                default:
                    int binary = isLetter(c) ? wordOperator() : binaryOf(c, text.at(pos + 1));
                    return binary == 0 ? refuse() : readBinary(binary);
            }
        }

        private boolean readAsk() {
            closeBinaries(0);
            pos++;
            wantsOperand = true;
            return push(ASK, emitJump(JUMP_IF_FALSE));
        }

        private boolean readElse() {
            if (settle() != ASK) {
                return refuse();
            }
            int end = emitJump(JUMP);
            landHere(notes[openCount - 1]);
            open[openCount - 1] = ELSE;
            notes[openCount - 1] = end;
            pos++;
            wantsOperand = true;
            return true;
        }

        private boolean readClose() {
            int inner = settle();
            if (inner < GROUP || inner > MAX) {
                return refuse();
            }
            close();
            pos++;
            wantsOperand = false;
            return true;
        }

        private boolean readComma() {
            int inner = settle();
            if (inner != MIN && inner != MAX) {
                return refuse();
            }
            notes[openCount - 1]++;
            pos++;
            wantsOperand = true;
            return true;
        }

        private boolean readBinary(int operator) {
            closeBinaries(PRECEDENCE[operator]);
            pos += WIDTH[operator];
            wantsOperand = true;
            int note = 0;
            if (operator == AND || operator == OR) {
                note = emitJump(operator == AND ? AND_LEFT : OR_LEFT);
            }
            return push(operator, note);
        }

        private int wordOperator() {
            Text word = text.part(pos, text.behindName(pos));
            if (word.is("eq")) {
                return SAME;
            }
            if (word.is("ne")) {
                return OTHER;
            }
            if (word.is("in")) {
                return IN;
            }
            return word.is("ni") ? NOT_IN : 0;
        }

        /** The operator that begins with these two bytes, or 0. */
        private static int binaryOf(int c, int next) {
            switch (c) {
                case '|':
                    return next == '|' ? OR : BIT_OR;
                case '&':
                    return next == '&' ? AND : BIT_AND;
                case '^':
                    return BIT_XOR;
                case '=':
                    return next == '=' ? EQUAL : 0;
                case '!':
                    return next == '=' ? UNEQUAL : 0;
                case '<':
                    return next == '<' ? LEFT : next == '=' ? LESS_EQUAL : LESS;
                case '>':
                    return next == '>' ? RIGHT : next == '=' ? MORE_EQUAL : MORE;
                case '+':
                    return PLUS;
                case '-':
                    return MINUS;
                case '*':
                    return TIMES;
                case '/':
                    return DIVIDE;
                case '%':
                    return MODULO;
                default:
                    return 0;
            }
        }

        /** Whether the step there is one that needs nothing evaluated. */
        boolean goesOnAt(int place) {
            int step = stepAt(place);
            return step != PARTS && step != END;
        }

        int stepAt(int place) {
            return place >= 0 && place < stepCount ? steps[place] : 0;
        }

        void pushText(Text value) {
            makeRoom();
            texts[valueCount++] = value;
        }

        private void pushWhole(long value) {
            makeRoom();
            texts[valueCount] = null;
            wholes[valueCount] = value;
            valueCount++;
        }

        private void makeRoom() {
            if (valueCount >= texts.length) {
                Text[] more = new Text[texts.length * 2];
                System.arraycopy(texts, 0, more, 0, valueCount);
                texts = more;
                wholes = Arrays.copyOf(wholes, texts.length);
            }
        }

        /** Whether a value is a whole; then it is kept by the scribe. */
        private boolean isWhole(int place) {
            if (texts[place] != null) {
                return scribe.isWhole(texts[place]);
            }
            scribe.whole = wholes[place];
            return true;
        }

        private Text textOf(int place) {
            return texts[place] != null ? texts[place] : scribe.digits(wholes[place]);
        }

        private boolean refuseWhole(int place) {
            return scribe.fail("no whole: ", texts[place], null, "");
        }

        /** The last value as an expression's result. */
        Text resultText() {
            if (valueCount < 1) {
                return scribe.empty;
            }
            return isWhole(valueCount - 1) ? scribe.digits(scribe.whole) : texts[valueCount - 1];
        }

        /** Works the step there; the answer is the next one, or -1 for an error or a LIMIT. */
        int work(Text source, int place) {
            int step = stepAt(place);
            int next = place + 1;
            boolean done;
            if (step == PLAIN || step == BRACED) {
                int first = stepAt(place + 1);
                int end = stepAt(place + 2);
                Text value = step == PLAIN ? source.part(first, end) : scribe.braced(source, first, end);
                pushText(value);
                done = scribe.spend(value.size);
                next = place + 3;
            } else if (step == JUMP) {
                return stepAt(place + 1);
            } else if (step >= JUMP_IF_FALSE) {
                return workTruth(step, place);
            } else if (step == MIN || step == MAX) {
                done = workLeast(step, stepAt(place + 1));
                next = place + 2;
            } else if (step == ABS || step >= NEGATE && step <= INVERT) {
                done = workSign(step);
            } else {
                done = workBinary(step);
            }
            return done ? next : -1;
        }

        private int workTruth(int step, int place) {
            if (valueCount < 1) {
                return -1;
            }
            valueCount--;
            int truth = texts[valueCount] != null ? scribe.truth(texts[valueCount])
                    : wholes[valueCount] != 0 ? 1 : 0;
            if (truth < 0) {
                scribe.fail("no truth: ", texts[valueCount], null, "");
                return -1;
            }
            if (step == TRUTH) {
                pushWhole(truth);
                return place + 1;
            }
            int goal = stepAt(place + 1);
            if (step == JUMP_IF_FALSE) {
                return truth == 1 ? place + 2 : goal;
            }
            if (truth == (step == OR_LEFT ? 1 : 0)) {
                pushWhole(truth);
                return goal;
            }
            return place + 2;
        }

        private boolean workLeast(int step, int number) {
            int first = valueCount - number;
            if (first < 0 || number < 1) {
                return false;
            }
            long best = 0;
            for (int i = first; i < valueCount; i++) {
                if (!isWhole(i)) {
                    return refuseWhole(i);
                }
                boolean better = step == MIN ? scribe.whole < best : scribe.whole > best;
                if (i == first || better) {
                    best = scribe.whole;
                }
            }
            valueCount = first;
            pushWhole(best);
            return true;
        }

        private boolean workSign(int step) {
            int place = valueCount - 1;
            if (place < 0) {
                return false;
            }
            if (step == NOT) {
                int truth = texts[place] != null ? scribe.truth(texts[place])
                        : wholes[place] != 0 ? 1 : 0;
                if (truth < 0) {
                    return scribe.fail("no truth: ", texts[place], null, "");
                }
                valueCount--;
                pushWhole(1 - truth);
                return true;
            }
            if (!isWhole(place)) {
                return refuseWhole(place);
            }
            long value = scribe.whole;
            valueCount--;
            if (step == ABS) {
                pushWhole(Math.abs(value));
            } else {
                pushWhole(step == NEGATE ? -value : step == INVERT ? ~value : value);
            }
            return true;
        }

        private boolean workBinary(int step) {
            int left = valueCount - 2;
            if (left < 0) {
                return false;
            }
            if (step == SAME || step == OTHER) {
                boolean same = textOf(left).same(textOf(left + 1));
                return replaceTwo(same == (step == SAME) ? 1 : 0);
            }
            if (step == IN || step == NOT_IN) {
                if (!scribe.split(textOf(left + 1))) {
                    return false;
                }
                boolean found = scribe.placeOf(textOf(left)) >= 0;
                return replaceTwo(found == (step == IN) ? 1 : 0);
            }
            boolean compares = step >= EQUAL && step <= MORE_EQUAL;
            boolean whole = isWhole(left);
            long a = scribe.whole;
            if (!whole && !compares) {
                return refuseWhole(left);
            }
            whole = whole && isWhole(left + 1);
            long b = scribe.whole;
            if (compares) {
                int order = whole ? Long.compare(a, b) : textOf(left).order(textOf(left + 1));
                return replaceTwo(holds(step, order) ? 1 : 0);
            }
            if (!whole) {
                return refuseWhole(left + 1);
            }
            if (b == 0 && (step == DIVIDE || step == MODULO)) {
                return scribe.fail("divided by 0", scribe.empty, null, "");
            }
            return replaceTwo(reckon(step, a, b));
        }

        private boolean replaceTwo(long value) {
            valueCount -= 2;
            pushWhole(value);
            return true;
        }

        private static boolean holds(int step, int order) {
            switch (step) {
                case EQUAL:
                    return order == 0;
                case UNEQUAL:
                    return order != 0;
                case LESS:
                    return order < 0;
                case LESS_EQUAL:
                    return order <= 0;
                case MORE:
                    return order > 0;
                default:
                    return order >= 0;
            }
        }

        private static long reckon(int step, long a, long b) {
            switch (step) {
                case BIT_OR:
                    return a | b;
                case BIT_XOR:
                    return a ^ b;
                case BIT_AND:
                    return a & b;
                case LEFT:
                    return a << (b & 63);
                case RIGHT:
                    return a >> (b & 63);
                case PLUS:
                    return a + b;
                case MINUS:
                    return a - b;
                case TIMES:
                    return a * b;
                case DIVIDE:
                    return b == 0 ? 0 : Math.floorDiv(a, b);
                default:
                    return b == 0 ? 0 : a - b * Math.floorDiv(a, b);
            }
        }
    }

    /** The commands that evaluate nothing, and OUT. */
    private static final class Basics {
        private static final String STRING_OPTIONS =
                "length index range equal compare first repeat reverse toupper tolower trim";
        private static final int[] STRING_ARGUMENTS = {1, 2, 3, 2, 2, 2, 2, 1, 1, 1, 1};
        private static final String ARRAY_OPTIONS = "exists size names get set unset";
        private static final int[] ARRAY_ARGUMENTS = {1, 1, 1, 1, 2, 1};
        private static final String INFO_OPTIONS = "exists level args body";
        private static final int[] INFO_ARGUMENTS = {1, 0, 1, 1};

        private final Scribe scribe;
        private final Store store;
        private byte[] out = new byte[256];
        int outSize;
        /** The words of the command at hand, and how many arguments are behind the first. */
        private Text[] words = new Text[0];
        private int base;
        private int given;

        Basics(Scribe scribe, Store store) {
            this.scribe = scribe;
            this.store = store;
        }

        int outByte(int i) {
            return i >= 0 && i < outSize ? out[i] & 255 : -1;
        }

        private Text word(int i) {
            int place = base + i;
            return i >= 0 && i <= given && place < words.length ? words[place] : scribe.empty;
        }

        private void answer(Text made) {
            scribe.succeed(made);
        }

        private void refuse() {
            scribe.fail("wrong arguments: ", word(0), null, "");
        }

        void takeWords(Text[] row, int first, int number) {
            words = row;
            base = first;
            given = number - 1;
        }

        void perform(int kind) {
            if (kind == Command.LIST || kind == Command.CONCAT) {
                int behind = base + given + 1;
                answer(kind == Command.LIST ? scribe.list(words, base + 1, behind)
                        : scribe.concat(words, base + 1, behind));
                return;
            }
            switch (kind) {
                case Command.SET:
                    set();
                    break;
                case Command.UNSET:
                    unset();
                    break;
                case Command.INCR:
                    incr();
                    break;
                case Command.APPEND:
                    append();
                    break;
                case Command.LAPPEND:
                    lappend();
                    break;
                case Command.PROC:
                    proc();
                    break;
                case Command.UPVAR:
                    upvar();
                    break;
                case Command.GLOBAL:
                    global();
                    break;
                case Command.LSORT:
                    lsort();
                    break;
                case Command.SPLIT:
                    split();
                    break;
                case Command.STRING:
                    string();
                    break;
                case Command.ARRAY:
                    if (given == 3 && word(1).is("set")) {
                        arraySet();
                    } else {
                        array();
                    }
                    break;
                case Command.INFO:
                    info();
                    break;
                default:
                    performOther(kind);
                    break;
            }
        }

        private void performOther(int kind) {
            switch (kind) {
                case Command.RETURN:
                    giveBack();
                    break;
                case Command.RENAME:
                    rename();
                    break;
                case Command.PUTS:
                    puts();
                    break;
                default:
                    scribe.result = word(1);
                    scribe.code = kind == Command.BREAK ? 3 : kind == Command.CONTINUE ? 4 : 1;
                    break;
            }
        }

        /** Performs a command on the elements of a list, which is its first argument. */
        void performOnElements(int kind) {
            if (!scribe.split(word(1))) {
                return;
            }
            switch (kind) {
                case Command.LINDEX:
                    lindex();
                    break;
                case Command.LLENGTH:
                    answer(scribe.digits(scribe.elementCount));
                    break;
                case Command.LRANGE:
                    lrange();
                    break;
                case Command.LREVERSE:
                    lreverse();
                    break;
                case Command.LSEARCH:
                    answer(scribe.digits(scribe.placeOf(word(2))));
                    break;
                case Command.LASSIGN:
                    lassign();
                    break;
                default:
                    join();
                    break;
            }
        }

        private void set() {
            store.name(word(1));
            if (given == 1) {
                Text value = store.read();
                if (value != null) {
                    answer(value);
                }
            } else if (store.write(word(2))) {
                answer(word(2));
            }
        }

        private void unset() {
            for (int i = 1; i <= given; i++) {
                store.name(word(i));
                if (!store.unset()) {
                    return;
                }
            }
        }

        private void incr() {
            store.name(word(1));
            Text value = store.readOr(scribe.digits(0));
            if (value == null || !scribe.wantWhole(value)) {
                return;
            }
            long sum = scribe.whole + 1;
            if (given == 2) {
                sum--;
                if (!scribe.wantWhole(word(2))) {
                    return;
                }
                sum += scribe.whole;
            }
            Text made = scribe.digits(sum);
            if (store.write(made)) {
                answer(made);
            }
        }

        private void append() {
            store.name(word(1));
            Text value = given == 1 ? store.read() : store.readOr(scribe.empty);
            if (value == null) {
                return;
            }
            if (given > 1) {
                int outer = scribe.begin();
                scribe.add(value);
                for (int i = 2; i <= given; i++) {
                    scribe.add(word(i));
                }
                value = scribe.take(outer);
                if (scribe.limit != 0 || !store.write(value)) {
                    return;
                }
            }
            answer(value);
        }

        private void lappend() {
            store.name(word(1));
            Text value = store.readOr(scribe.empty);
            if (value == null || !scribe.wantList(value)) {
                return;
            }
            // WORK does not grow by the value, so no texts are made of its elements.
            int outer = scribe.begin();
            scribe.addElements(value);
            for (int i = 2; i <= given; i++) {
                scribe.addElement(word(i));
            }
            Text made = scribe.take(outer);
            if (scribe.limit == 0 && store.write(made)) {
                answer(made);
            }
        }

        private void proc() {
            if (!scribe.split(word(2))) {
                return;
            }
            int number = scribe.elementCount;
            Command made = new Command(Command.PROCEDURE, word(1));
            made.params = new Text[number];
            made.values = new Text[number];
            made.body = word(3);
            System.arraycopy(scribe.elements, 0, made.params, 0, number);
            for (int i = 0; i < number; i++) {
                Text told = made.params[i];
                int parts = scribe.split(told) ? scribe.elementCount : 0;
                if (parts < 1 || parts > 2 || scribe.elements[0].size == 0
                        || store.name(scribe.elements[0])) {
                    scribe.fail("no parameters: ", told);
                    return;
                }
                made.params[i] = scribe.elements[0];
                made.values[i] = parts == 2 ? scribe.elements[1] : null;
            }
            store.define(made);
        }

        private void giveBack() {
            int code = 0;
            if (given >= 2) {
                if (!word(1).is("-code")) {
                    refuse();
                    return;
                }
                code = codeOf(word(2));
                if (code < 0) {
                    scribe.fail("no code: ", word(2));
                    return;
                }
            }
            scribe.code = 2;
            scribe.told = code;
            scribe.result = given == 2 ? scribe.empty : word(given == 0 ? 1 : given);
        }

        private int codeOf(Text told) {
            int named = placeIn("ok error return break continue", told);
            if (named >= 0) {
                return named;
            }
            return scribe.isWhole(told) && scribe.whole >= 0 && scribe.whole <= 999 ? (int) scribe.whole : -1;
        }

        /** Which of the words, that have a blank between, the text is, or -1. */
        private static int placeIn(String row, Text text) {
            int place = 0;
            int matched = 0;
            for (int i = 0; i <= row.length(); i++) {
                int c = i < row.length() ? row.charAt(i) : ' ';
                if (c != ' ') {
                    matched = matched >= 0 && text.at(matched) == c ? matched + 1 : -1;
                } else if (matched == text.size && matched > 0) {
                    return place;
                } else {
                    place++;
                    matched = 0;
                }
            }
            return -1;
        }

        private void upvar() {
            boolean told = given % 2 == 1;
            Names target = told ? store.frameAt(word(1)) : store.frameAt(scribe.digits(1));
            if (target == null) {
                return;
            }
            for (int i = told ? 2 : 1; i < given; i += 2) {
                if (!link(target, word(i), word(i + 1))) {
                    return;
                }
            }
        }

        private void global() {
            for (int i = 1; i <= given && store.frame.level > 0; i++) {
                if (!link(store.frames[0], word(i), word(i))) {
                    return;
                }
            }
        }

        private boolean link(Names target, Text other, Text name) {
            if (store.name(name)) {
                return scribe.fail("", name, null, " is no name");
            }
            store.name(other);
            return store.obtain(target) && store.frame.link(name, store.obtained(), scribe);
        }

        /** The place an INDEX tells among so many; below 0, or beyond them, if there is none such. */
        private int placeOf(Text told, int number) {
            long place = 0;
            if (scribe.isWhole(told)) {
                place = scribe.whole;
            } else if (told.is("end")) {
                place = number - 1;
            } else if (told.digitsFrom(4) && told.part(0, 4).is("end-")) {
                place = number - 1 - told.smallNumber(4);
            } else {
                scribe.fail("no index: ", told, null, "");
            }
            return (int) Math.max(-1, Math.min(place, number));
        }

        private void lindex() {
            int place = placeOf(word(2), scribe.elementCount);
            if (scribe.code == 0 && place >= 0 && place < scribe.elementCount) {
                answer(scribe.elements[place]);
            }
        }

        private void lrange() {
            int first = placeOf(word(2), scribe.elementCount);
            int last = scribe.code == 0 ? placeOf(word(3), scribe.elementCount) : 0;
            if (scribe.code == 0) {
                answerElements(first, last);
            }
        }

        private void answerElements(int first, int last) {
            int outer = scribe.begin();
            for (int i = Math.max(0, first); i <= last && i < scribe.elementCount; i++) {
                scribe.addElement(scribe.elements[i]);
            }
            answer(scribe.take(outer));
        }

        private void lreverse() {
            int outer = scribe.begin();
            for (int i = scribe.elementCount - 1; i >= 0; i--) {
                scribe.addElement(scribe.elements[i]);
            }
            answer(scribe.take(outer));
        }

        private void lsort() {
            boolean integer = false;
            boolean decreasing = false;
            for (int i = 1; i < given; i++) {
                boolean tellsInteger = word(i).is("-integer");
                boolean fresh = tellsInteger ? !integer : word(i).is("-decreasing") && !decreasing;
                if (!fresh) {
                    refuse();
                    return;
                }
                integer = integer || tellsInteger;
                decreasing = decreasing || !tellsInteger;
            }
            if (!scribe.split(word(given))) {
                return;
            }
            int number = scribe.elementCount;
            long[] keys = integer ? new long[number] : null;
            for (int i = 0; i < number && keys != null; i++) {
                if (!scribe.wantWhole(scribe.elements[i])) {
                    return;
                }
                keys[i] = scribe.whole;
            }
            int[] order = sorted(number, keys, decreasing ? -1 : 1);
            int outer = scribe.begin();
            for (int i = 0; i < number; i++) {
                scribe.addElement(scribe.elements[order[i]]);
            }
            answer(scribe.take(outer));
        }

        /** The places of the elements in their order; like ones as they stand. */
        private int[] sorted(int number, long[] keys, int sign) {
            int[] order = new int[number];
            int[] other = new int[number];
            for (int i = 0; i < number; i++) {
                order[i] = i;
            }
            for (int width = 1; width < number; width *= 2) {
                for (int start = 0; start < number; start += 2 * width) {
                    int middle = Math.min(start + width, number);
                    int behind = Math.min(middle + width, number);
                    int left = start;
                    int right = middle;
                    for (int i = start; i < behind; i++) {
                        boolean takesRight = left >= middle || right < behind
                                && ordered(order[right], order[left], keys) * sign < 0;
                        other[i] = takesRight ? order[right++] : order[left++];
                    }
                }
                int[] done = other;
                other = order;
                order = done;
            }
            return order;
        }

        private int ordered(int a, int b, long[] keys) {
            return keys != null ? Long.compare(keys[a], keys[b])
                    : scribe.elements[a].order(scribe.elements[b]);
        }

        private void lassign() {
            int names = given - 1;
            for (int i = 0; i < names; i++) {
                store.name(word(i + 2));
                if (!store.write(i < scribe.elementCount ? scribe.elements[i] : scribe.empty)) {
                    return;
                }
            }
            answerElements(names, scribe.elementCount - 1);
        }

        private void join() {
            int outer = scribe.begin();
            for (int i = 0; i < scribe.elementCount && scribe.limit == 0; i++) {
                if (i > 0 && given == 2) {
                    scribe.add(word(2));
                } else if (i > 0) {
                    scribe.add(' ');
                }
                scribe.add(scribe.elements[i]);
            }
            answer(scribe.take(outer));
        }

        private void split() {
            Text text = word(1);
            Text marks = word(2);
            int outer = scribe.begin();
            int start = 0;
            for (int i = 0; i <= text.size && text.size > 0 && scribe.limit == 0; i++) {
                if (given == 2 && marks.size == 0) {
                    if (i < text.size) {
                        scribe.addElement(text.part(i, i + 1));
                    }
                } else if (i == text.size || splitsAt(text.at(i), marks)) {
                    scribe.addElement(text.part(start, i));
                    start = i + 1;
                }
            }
            answer(scribe.take(outer));
        }

        private boolean splitsAt(int c, Text marks) {
            return given == 1 ? isWhite(c) : marks.find(c, 0, marks.size) >= 0;
        }

        /** Which option the first argument is; -1, and an error, if it is none or has others behind it. */
        private int option(String options, int[] numbers) {
            int which = placeIn(options, word(1));
            if (which < 0 || which >= numbers.length) {
                scribe.fail("no option: ", word(1));
                return -1;
            }
            if (given - 1 != numbers[which]) {
                refuse();
                return -1;
            }
            return which;
        }

        private void string() {
            Text text = word(2);
            switch (option(STRING_OPTIONS, STRING_ARGUMENTS)) {
                case 0:
                    answer(scribe.digits(text.size));
                    break;
                case 1:
                    stringRange(text, word(3), word(3));
                    break;
                case 2:
                    stringRange(text, word(3), word(4));
                    break;
                case 3:
                    answer(scribe.digits(text.same(word(3)) ? 1 : 0));
                    break;
                case 4:
                    answer(scribe.digits(text.order(word(3))));
                    break;
                case 5:
                    answer(scribe.digits(firstPlace(text, word(3))));
                    break;
                case 6:
                    stringRepeat(text);
                    break;
                case 7:
                    stringReverse(text);
                    break;
                case 8:
                    changeLetters(text, 'a', -32);
                    break;
                case 9:
                    changeLetters(text, 'A', 32);
                    break;
                case 10:
                    answer(text.trimmed());
                    break;
                default:
                    break;
            }
        }

        private void stringRange(Text text, Text from, Text to) {
            int first = placeOf(from, text.size);
            int last = scribe.code == 0 ? placeOf(to, text.size) : 0;
            if (scribe.code == 0 && first <= last && last >= 0) {
                answer(text.part(first, last + 1));
            }
        }

        private static int firstPlace(Text part, Text text) {
            for (int i = 0; i <= text.size - part.size && part.size > 0; i++) {
                if (text.holdsAt(i, part)) {
                    return i;
                }
            }
            return -1;
        }

        private void stringRepeat(Text text) {
            if (!scribe.wantWhole(word(3))) {
                return;
            }
            long times = text.size == 0 ? 0 : scribe.whole;
            int outer = scribe.begin();
            for (long i = 0; i < times && scribe.limit == 0; i++) {
                scribe.add(text);
            }
            answer(scribe.take(outer));
        }

        private void stringReverse(Text text) {
            int outer = scribe.begin();
            for (int i = text.size - 1; i >= 0; i--) {
                scribe.add(text.at(i));
            }
            answer(scribe.take(outer));
        }

        /** Moves the letters of the alphabet that begins there. */
        private void changeLetters(Text text, int first, int distance) {
            int outer = scribe.begin();
            for (int i = 0; i < text.size; i++) {
                int c = text.at(i);
                scribe.add(c >= first && c < first + 26 ? c + distance : c);
            }
            answer(scribe.take(outer));
        }

        private void array() {
            int which = option(ARRAY_OPTIONS, ARRAY_ARGUMENTS);
            Names elements = which < 0 || store.name(word(2)) ? null : store.elements();
            switch (which) {
                case 0:
                    answer(scribe.digits(elements != null ? 1 : 0));
                    break;
                case 1:
                    answer(scribe.digits(elements != null ? arraySize(elements) : 0));
                    break;
                case 2:
                case 3:
                    if (elements != null) {
                        listArray(elements, which == 3);
                    }
                    break;
                case 5:
                    if (elements != null) {
                        store.unset();
                    }
                    break;
                default:
                    break;
            }
        }

        private static int arraySize(Names elements) {
            int number = 0;
            for (int i = 0; i < elements.known; i++) {
                if (elements.stateAt(i) != Names.UNSET) {
                    number++;
                }
            }
            return number;
        }

        private void listArray(Names elements, boolean withValues) {
            int outer = scribe.begin();
            for (int i = 0; i < elements.known && scribe.limit == 0; i++) {
                if (elements.stateAt(i) != Names.UNSET) {
                    scribe.addElement(elements.names[i]);
                    if (withValues) {
                        scribe.addElement(elements.textAt(i));
                    }
                }
            }
            answer(scribe.take(outer));
        }

        private void arraySet() {
            if (!scribe.split(word(3))) {
                return;
            }
            if (scribe.elementCount % 2 != 0) {
                scribe.fail("no pairs");
                return;
            }
            if (store.name(word(2))) {
                scribe.fail("", word(2), null, " is no array");
                return;
            }
            for (int i = 0; i + 1 < scribe.elementCount; i += 2) {
                store.nameParts(word(2), scribe.elements[i]);
                if (!store.write(scribe.elements[i + 1])) {
                    return;
                }
            }
        }

        private void info() {
            int which = option(INFO_OPTIONS, INFO_ARGUMENTS);
            if (which == 0) {
                store.name(word(2));
                answer(scribe.digits(store.seek() != Names.UNSET ? 1 : 0));
            } else if (which == 1) {
                answer(scribe.digits(store.frame.level));
            } else if (which > 1) {
                Command found = store.command(word(2));
                if (found == null || found.kind != Command.PROCEDURE) {
                    scribe.fail("no procedure: ", word(2));
                } else if (which == 2) {
                    answer(scribe.list(found.params, 0, found.params.length));
                } else {
                    answer(found.body);
                }
            }
        }

        private void rename() {
            Command found = store.command(word(1));
            if (found == null) {
                scribe.fail("no such command: ", word(1));
            } else if (word(2).size == 0) {
                store.forget(found);
            } else if (store.command(word(2)) != null) {
                scribe.fail("", word(2), null, " is there already");
            } else {
                found.name = word(2);
            }
        }

        private void puts() {
            if (given == 2 && !word(1).is("-nonewline")) {
                refuse();
                return;
            }
            Text text = word(given);
            for (int i = 0; i < text.size; i++) {
                putByte(text.at(i));
            }
            if (given == 1) {
                putByte(10);
            }
        }

        private void putByte(int c) {
            if (outSize >= out.length) {
                out = Arrays.copyOf(out, out.length * 2);
            }
            out[outSize++] = (byte) c;
        }
    }

    /** Something that is under way: a script, a text of parts, an expression or a command. */
    private static final class Task {
        // Phases of a script.
        static final int NEXT = 0;
        static final int WORD = 1;
        static final int WORD_DONE = 2;
        static final int EXPAND = 3;
        static final int CALL = 4;
        static final int OVER = 5;
        static final int BASIC = 6;
        static final int ON_ELEMENTS = 7;
        // Of a text of parts.
        static final int PART = 8;
        static final int PART_SCRIPT = 9;
        static final int PART_KEY = 10;
        static final int PART_VALUE = 11;
        // Of an expression.
        static final int READING = 12;
        static final int WORKING = 13;
        static final int OPERAND_DONE = 14;
        static final int REFUSED = 15;
        // Of commands that begin.
        static final int CATCH = 16;
        static final int EVAL = 17;
        static final int EXPR = 18;
        static final int FOR = 19;
        static final int FOREACH = 20;
        static final int SWITCH = 21;
        static final int UPLEVEL = 22;
        static final int SUBST = 23;
        static final int PROCEDURE = 24;
        // Of commands that go on.
        static final int IF_TEST = 25;
        static final int IF_TESTED = 26;
        static final int LOOP_FIRST = 27;
        static final int LOOP_TEST = 28;
        static final int LOOP_TESTED = 29;
        static final int LOOP_BODY = 30;
        static final int LOOP_NEXT = 31;
        static final int ROUND = 32;
        static final int ROUND_DONE = 33;
        static final int CAUGHT = 34;
        static final int RETURNED = 35;
        static final int LIFTED = 36;

        int phase;
        /** What is read, from where on, and of parts up to where. */
        Text text;
        int pos;
        int to;
        /** Where its words, steps or bytes begin; how many words there are; where its values begin. */
        int base;
        int number;
        int values;
        /** The kind of command, the word, the round or the $ that is at hand. */
        int index;
        boolean expands;
        /** Whether it is a KEY, which is in evaluation. */
        boolean isKey;
        Command command;
        /** The frame that is at hand again when it is over. */
        Names frame;
        /** Of foreach, for each pair: where its names begin, how many these and the elements are. */
        int[] plan;
    }

    /** Works scripts: the task on top goes on, and what it ends with is for the one below it. */
    private static final class Machine {
        static final int MOST_EVALUATING = 100;
        static final int MOST_OPEN = 40;
        // Each evaluation has at most one task beside its own: a word, an operand or a command.
        private static final int MOST_TASKS = 2 * MOST_EVALUATING + 2;
        // Far more than WORK lets a run do.
        private static final int MOST_STEPS = 1000000;

        final Scribe scribe = new Scribe();
        private final Reader reader = new Reader();
        final Store store = new Store(scribe);
        private final Expression expression = new Expression(scribe, reader);
        final Basics basics = new Basics(scribe, store);
        private final Task[] tasks = new Task[MOST_TASKS];
        private int taskCount;
        private Text[] words = new Text[64];
        private int wordCount;
        int ran;
        private int evaluating;
        int mostEvaluating;
        private int open;
        int mostOpen;

        Machine() {
            for (int i = 0; i < MOST_TASKS; i++) {
                tasks[i] = new Task();
            }
        }

        void start(Text script) {
            scribe.limit = 0;
            scribe.succeed(scribe.empty);
            basics.outSize = 0;
            ran = 0;
            mostEvaluating = 0;
            mostOpen = 0;
            beginScript(script);
        }

        /** The code that the run ended with; all is made ready for the next. */
        int finish() {
            if (taskCount > 0) {
                scribe.stop(1);
            }
            if (scribe.limit != 0) {
                scribe.result = scribe.empty;
            }
            taskCount = 0;
            wordCount = 0;
            evaluating = 0;
            open = 0;
            store.frame = store.frames[0];
            scribe.length = 0;
            scribe.mark = 0;
            expression.stepCount = 0;
            expression.valueCount = 0;
            return scribe.limit != 0 ? -scribe.limit : scribe.code;
        }

        void drive() {
            for (int i = 0; i < MOST_STEPS && taskCount > 0 && scribe.limit == 0; i++) {
                Task task = tasks[taskCount - 1];
                int phase = task.phase;
                if (phase == Task.BASIC || phase == Task.ON_ELEMENTS) {
                    task.phase = Task.OVER;
                    basics.takeWords(words, task.base, task.number);
                    if (phase == Task.BASIC) {
                        basics.perform(task.index);
                    } else {
                        basics.performOnElements(task.index);
                    }
                } else if (phase < Task.PART) {
                    driveScript(task);
                } else if (phase < Task.READING) {
                    driveParts(task);
                } else if (phase == Task.READING) {
                    task.phase = expression.read(task.text) ? Task.WORKING : Task.REFUSED;
                } else if (phase == Task.WORKING && expression.goesOnAt(task.pos)) {
                    task.pos = expression.work(task.text, task.pos);
                    task.phase = task.pos < 0 ? Task.REFUSED : Task.WORKING;
                } else if (phase < Task.CATCH) {
                    driveExpression(task);
                } else if (phase < Task.IF_TEST) {
                    driveStart(task);
                } else {
                    driveCommand(task);
                }
            }
        }

        private void driveScript(Task task) {
            switch (task.phase) {
                case Task.NEXT:
                    nextCommand(task);
                    break;
                case Task.WORD:
                    nextWord(task);
                    break;
                case Task.WORD_DONE:
                    if (scribe.code == 0) {
                        takeWord(task, scribe.result);
                    } else {
                        leaveScript(task);
                    }
                    break;
                case Task.EXPAND:
                    expand(task);
                    break;
                case Task.CALL:
                    call(task);
                    break;
                default:
                    commandOver(task);
                    break;
            }
        }

        private void driveParts(Task task) {
            boolean evaluated = task.phase == Task.PART_SCRIPT || task.phase == Task.PART_KEY;
            if (evaluated && scribe.code != 0) {
                leaveParts(task);
                return;
            }
            scribe.mark = task.base;
            switch (task.phase) {
                case Task.PART_SCRIPT:
                    scribe.add(scribe.result);
                    task.phase = Task.PART;
                    break;
                case Task.PART_KEY:
                    int name = task.index + 1;
                    store.nameParts(task.text.part(name, task.text.behindName(name)), scribe.result);
                    putVariable(task);
                    break;
                case Task.PART_VALUE:
                    putVariable(task);
                    break;
                default:
                    parts(task);
                    break;
            }
        }

        private void driveStart(Task task) {
            switch (task.phase) {
                case Task.CATCH:
                    task.phase = Task.CAUGHT;
                    beginScript(word(task, 1));
                    break;
                case Task.EVAL:
                case Task.EXPR:
                    startText(task);
                    break;
                case Task.FOR:
                    task.phase = Task.LOOP_FIRST;
                    beginScript(word(task, 1));
                    break;
                case Task.FOREACH:
                    startForeach(task);
                    break;
                case Task.SWITCH:
                    startSwitch(task);
                    break;
                case Task.UPLEVEL:
                    startUplevel(task);
                    break;
                case Task.SUBST:
                    startSubst(task);
                    break;
                default:
                    startProcedure(task);
                    break;
            }
        }

        private void driveCommand(Task task) {
            switch (task.phase) {
                case Task.IF_TEST:
                    testIf(task);
                    break;
                case Task.IF_TESTED:
                    chooseIf(task);
                    break;
                case Task.LOOP_TEST:
                    task.phase = Task.LOOP_TESTED;
                    beginExpression(word(task, task.number == 3 ? 1 : 2));
                    break;
                case Task.LOOP_TESTED:
                    enterLoop(task);
                    break;
                case Task.LOOP_FIRST:
                case Task.LOOP_BODY:
                case Task.LOOP_NEXT:
                    goOnLoop(task);
                    break;
                case Task.ROUND:
                    nextRound(task);
                    break;
                case Task.ROUND_DONE:
                    roundDone(task);
                    break;
                case Task.CAUGHT:
                    caught(task);
                    break;
                case Task.RETURNED:
                    returned(task);
                    break;
                default:
                    store.frame = task.frame;
                    taskCount--;
                    break;
            }
        }

        private Text word(Task task, int i) {
            int place = task.base + i;
            return i >= 0 && i < task.number && place < wordCount ? words[place] : scribe.empty;
        }

        private void pushWord(Text word) {
            if (wordCount >= words.length) {
                Text[] more = new Text[words.length * 2];
                System.arraycopy(words, 0, more, 0, wordCount);
                words = more;
            }
            words[wordCount++] = word;
        }

        /** A task on top of the others; there is always one, as evaluations are counted. */
        private Task push(int phase) {
            if (taskCount >= MOST_TASKS) {
                scribe.stop(4);
                taskCount = MOST_TASKS - 1;
            }
            Task task = tasks[taskCount++];
            task.phase = phase;
            return task;
        }

        /** Counts one more in evaluation, if there may be one. */
        private boolean enter(int effort) {
            if (evaluating >= MOST_EVALUATING) {
                scribe.stop(4);
                return false;
            }
            if (!scribe.spend(effort)) {
                return false;
            }
            evaluating++;
            mostEvaluating = Math.max(mostEvaluating, evaluating);
            return true;
        }

        private void beginScript(Text script) {
            if (enter(5 + script.size)) {
                Task task = push(Task.NEXT);
                task.text = script;
                task.pos = 0;
                task.base = wordCount;
                scribe.succeed(scribe.empty);
            }
        }

        private void beginExpression(Text text) {
            if (enter(5 + text.size)) {
                Task task = push(Task.READING);
                task.text = text;
                task.base = expression.stepCount;
                task.pos = task.base;
                task.values = expression.valueCount;
                scribe.succeed(scribe.empty);
            }
        }

        private void beginParts(Text text, int from, int to, boolean isKey) {
            Task task = push(Task.PART);
            task.text = text;
            task.pos = from;
            task.to = to;
            task.base = scribe.length;
            task.isKey = isKey;
        }

        private void leaveScript(Task task) {
            wordCount = task.base;
            evaluating--;
            taskCount--;
        }

        private void nextCommand(Task task) {
            int start = reader.commandStart(task.text, task.pos);
            if (start >= task.text.size) {
                leaveScript(task);
                return;
            }
            if (reader.commandEnd(task.text, start) < 0) {
                tellReading();
                leaveScript(task);
                return;
            }
            task.pos = start;
            task.phase = Task.WORD;
        }

        private void tellReading() {
            if (reader.deep) {
                scribe.stop(4);
            } else {
                scribe.fail(reader.error);
            }
        }

        private void nextWord(Task task) {
            Text text = task.text;
            int start = reader.wordStart(text, task.pos);
            if (reader.endsAt(text, start)) {
                task.pos = start;
                task.phase = Task.CALL;
                return;
            }
            task.expands = reader.expandsAt(text, start);
            if (task.expands) {
                start += 3;
            }
            int end = reader.wordEnd(text, start);
            int first = text.at(start);
            task.pos = end;
            if (first == '{') {
                Text word = scribe.braced(text, start + 1, end - 1);
                if (scribe.spend(word.size)) {
                    takeWord(task, word);
                }
                return;
            }
            task.phase = Task.WORD_DONE;
            if (first == '"') {
                beginParts(text, start + 1, end - 1, false);
            } else {
                beginParts(text, start, end, false);
            }
        }

        private void takeWord(Task task, Text word) {
            if (task.expands) {
                scribe.result = word;
                task.phase = Task.EXPAND;
            } else {
                pushWord(word);
                task.phase = Task.WORD;
            }
        }

        private void expand(Task task) {
            if (!scribe.split(scribe.result)) {
                leaveScript(task);
                return;
            }
            for (int i = 0; i < scribe.elementCount; i++) {
                pushWord(scribe.elements[i]);
            }
            task.phase = Task.WORD;
        }

        private void call(Task task) {
            task.number = wordCount - task.base;
            scribe.succeed(scribe.empty);
            if (task.number == 0) {
                task.phase = Task.NEXT;
                return;
            }
            if (!scribe.spend(5 + task.number)) {
                return;
            }
            ran++;
            task.phase = Task.OVER;
            Command command = store.command(word(task, 0));
            if (command == null) {
                scribe.fail("no such command: ", word(task, 0));
                return;
            }
            int first = firstPhase(command.kind);
            if (first != Task.PROCEDURE && !command.takes(task.number - 1)) {
                refuse(task);
            } else if (first == Task.BASIC || first == Task.ON_ELEMENTS) {
                task.index = command.kind;
                task.phase = first;
            } else {
                Task started = push(first);
                started.base = task.base;
                started.number = task.number;
                started.index = 1;
                started.command = command;
            }
        }

        private static int firstPhase(int kind) {
            switch (kind) {
                case Command.CATCH:
                    return Task.CATCH;
                case Command.EVAL:
                    return Task.EVAL;
                case Command.EXPR:
                    return Task.EXPR;
                case Command.IF:
                    return Task.IF_TEST;
                case Command.WHILE:
                    return Task.LOOP_TEST;
                case Command.FOR:
                    return Task.FOR;
                case Command.FOREACH:
                    return Task.FOREACH;
                case Command.SWITCH:
                    return Task.SWITCH;
                case Command.UPLEVEL:
                    return Task.UPLEVEL;
                case Command.SUBST:
                    return Task.SUBST;
                case Command.PROCEDURE:
                    return Task.PROCEDURE;
                default:
                    return Command.isOnElements(kind) ? Task.ON_ELEMENTS : Task.BASIC;
            }
        }

        private void refuse(Task task) {
            scribe.fail("wrong arguments: ", word(task, 0), null, "");
        }

        private void commandOver(Task task) {
            wordCount = task.base;
            if (!scribe.spend(scribe.result.size)) {
                return;
            }
            if (scribe.code != 0) {
                leaveScript(task);
            } else {
                task.phase = Task.NEXT;
            }
        }

        private void leaveParts(Task task) {
            scribe.length = task.base;
            if (task.isKey) {
                evaluating--;
            }
            taskCount--;
        }

        /** Puts in part after part, up to one that has to be evaluated. */
        private void parts(Task task) {
            Text text = task.text;
            for (int turn = task.pos; turn < task.to && task.pos < task.to && scribe.limit == 0
                    && task.phase == Task.PART; turn++) {
                int pos = task.pos;
                int c = text.at(pos);
                if (c != '[' && c != '$' && c != '\\') {
                    scribe.add(c);
                    task.pos = pos + 1;
                    continue;
                }
                task.pos = reader.partEnd(text, pos);
                if (c == '[') {
                    task.phase = Task.PART_SCRIPT;
                    beginScript(text.part(pos + 1, task.pos - 1));
                    return;
                }
                if (c == '$') {
                    putDollar(task, pos);
                } else {
                    scribe.add(text.escaped(pos, task.pos));
                }
            }
            if (task.phase == Task.PART && scribe.limit == 0) {
                if (scribe.spend(scribe.length - scribe.mark)) {
                    scribe.succeed(scribe.take(scribe.mark));
                    leaveParts(task);
                }
            }
        }

        private void putDollar(Task task, int pos) {
            Text text = task.text;
            int end = task.pos;
            int name = text.behindName(pos + 1);
            if (text.at(pos + 1) == '{') {
                store.name(text.part(pos + 2, end - 1));
                task.phase = Task.PART_VALUE;
            } else if (end == pos + 1) {
                scribe.add('$');
            } else if (name == end) {
                store.nameParts(text.part(pos + 1, end), null);
                task.phase = Task.PART_VALUE;
            } else if (enter(0)) {
                task.index = pos;
                task.phase = Task.PART_KEY;
                beginParts(text, name + 1, end - 1, true);
            }
        }

        private void putVariable(Task task) {
            Text value = store.read();
            if (value != null) {
                scribe.add(value);
                task.phase = Task.PART;
            } else {
                leaveParts(task);
            }
        }

        private void driveExpression(Task task) {
            if (task.phase == Task.OPERAND_DONE && scribe.code == 0) {
                expression.pushText(scribe.result);
                task.phase = Task.WORKING;
                return;
            }
            if (task.phase == Task.WORKING && expression.stepAt(task.pos) == Expression.PARTS) {
                int from = expression.stepAt(task.pos + 1);
                int to = expression.stepAt(task.pos + 2);
                task.pos += 3;
                task.phase = Task.OPERAND_DONE;
                beginParts(task.text, from, to, false);
                return;
            }
            if (task.phase == Task.WORKING) {
                scribe.succeed(expression.resultText());
            }
            expression.stepCount = task.base;
            expression.valueCount = task.values;
            evaluating--;
            taskCount--;
        }

        private void startText(Task task) {
            boolean isScript = task.phase == Task.EVAL;
            Text text = scribe.concat(words, task.base + 1, task.base + task.number);
            taskCount--;
            if (scribe.limit != 0) {
                return;
            }
            if (isScript) {
                beginScript(text);
            } else {
                beginExpression(text);
            }
        }

        private void startSubst(Task task) {
            Text text = word(task, 1);
            taskCount--;
            if (reader.textEnd(text) < 0) {
                tellReading();
            } else {
                beginParts(text, 0, text.size, false);
            }
        }

        private void startForeach(Task task) {
            if (task.number % 2 != 0) {
                taskCount--;
                refuse(task);
                return;
            }
            int pairs = (task.number - 2) / 2;
            task.plan = new int[Math.max(0, pairs) * 3];
            for (int i = 0; i < pairs; i++) {
                task.plan[3 * i] = wordCount;
                boolean fine = scribe.split(word(task, 2 * i + 1));
                if (fine && scribe.elementCount == 0) {
                    fine = scribe.fail("no names");
                }
                task.plan[3 * i + 1] = scribe.elementCount;
                fine = fine && pushNames() && scribe.split(word(task, 2 * i + 2));
                task.plan[3 * i + 2] = scribe.elementCount;
                fine = fine && pushElements();
                if (!fine) {
                    taskCount--;
                    return;
                }
            }
            task.index = 0;
            task.phase = Task.ROUND;
        }

        /** Pushes names, each as two words, so that they need not be split in each round. */
        private boolean pushNames() {
            for (int i = 0; i < scribe.elementCount; i++) {
                store.name(scribe.elements[i]);
                pushWord(store.array);
                pushWord(store.key);
            }
            return true;
        }

        private boolean pushElements() {
            for (int i = 0; i < scribe.elementCount; i++) {
                pushWord(scribe.elements[i]);
            }
            return true;
        }

        private void startSwitch(Task task) {
            Text text = word(task, 1);
            taskCount--;
            if (!scribe.split(word(task, 2))) {
                return;
            }
            int number = scribe.elementCount;
            if (number % 2 != 0) {
                scribe.fail("no pairs");
                return;
            }
            for (int i = 0; i + 1 < number; i += 2) {
                Text pattern = scribe.elements[i];
                if (pattern.same(text) || i + 2 == number && pattern.is("default")) {
                    int body = i + 1;
                    while (body < number && scribe.elements[body].is("-")) {
                        body += 2;
                    }
                    if (body < number) {
                        beginScript(scribe.elements[body]);
                    } else {
                        scribe.fail("no body");
                    }
                    return;
                }
            }
        }

        private void startUplevel(Task task) {
            boolean told = task.number > 2 && store.isLevel(word(task, 1));
            Names target = store.frameAt(told ? word(task, 1) : scribe.digits(1));
            if (target == null) {
                taskCount--;
                return;
            }
            int first = task.base + (told ? 2 : 1);
            Text script = scribe.concat(words, first, task.base + task.number);
            if (scribe.limit == 0) {
                task.frame = store.frame;
                task.phase = Task.LIFTED;
                store.frame = target;
                beginScript(script);
            }
        }

        private void startProcedure(Task task) {
            Command procedure = task.command;
            int given = task.number - 1;
            if (!procedure.fits(given)) {
                taskCount--;
                refuse(task);
                return;
            }
            int number = procedure.params.length;
            int single = procedure.takesRest() ? number - 1 : number;
            Text rest = scribe.list(words, task.base + 1 + single, task.base + task.number);
            if (scribe.limit == 0 && open >= MOST_OPEN) {
                scribe.stop(4);
            }
            if (scribe.limit != 0) {
                return;
            }
            open++;
            mostOpen = Math.max(mostOpen, open);
            task.frame = store.frame;
            task.phase = Task.RETURNED;
            store.frame = store.frames[open];
            store.frame.open(task.frame);
            for (int i = 0; i < number; i++) {
                Text value = i >= single ? rest : i < given ? word(task, i + 1) : procedure.values[i];
                store.nameParts(procedure.params[i], null);
                if (!store.write(value)) {
                    return;
                }
            }
            beginScript(procedure.body);
        }

        private void returned(Task task) {
            open--;
            store.frame = task.frame;
            taskCount--;
            if (scribe.code == 2) {
                scribe.code = scribe.told;
                scribe.told = 0;
            } else if (scribe.code == 3) {
                scribe.fail("break without loop");
            } else if (scribe.code == 4) {
                scribe.fail("continue without loop");
            }
        }

        private void caught(Task task) {
            Text code = scribe.digits(scribe.code);
            Text result = scribe.result;
            taskCount--;
            scribe.succeed(code);
            if (task.number == 3) {
                store.name(word(task, 2));
                store.write(result);
            }
        }

        /** Whether what a test gave is true; what is no truth ends the command. */
        private boolean isTrue() {
            int truth = scribe.code == 0 ? scribe.truth(scribe.result) : 0;
            if (truth < 0) {
                scribe.fail("no truth: ", scribe.result);
            }
            return truth == 1;
        }

        private void leaveRefused(Task task) {
            taskCount--;
            refuse(task);
        }

        private void testIf(Task task) {
            if (task.index >= task.number) {
                leaveRefused(task);
                return;
            }
            task.phase = Task.IF_TESTED;
            beginExpression(word(task, task.index));
        }

        private void chooseIf(Task task) {
            boolean chosen = isTrue();
            if (scribe.code != 0) {
                taskCount--;
                return;
            }
            int body = task.index + 1;
            if (body < task.number && word(task, body).is("then")) {
                body++;
            }
            if (body >= task.number) {
                leaveRefused(task);
                return;
            }
            if (!chosen) {
                body++;
                if (body < task.number && word(task, body).is("elseif")) {
                    task.index = body + 1;
                    task.phase = Task.IF_TEST;
                    return;
                }
                if (body >= task.number) {
                    taskCount--;
                    scribe.succeed(scribe.empty);
                    return;
                }
                if (word(task, body).is("else")) {
                    body++;
                }
                if (body != task.number - 1) {
                    leaveRefused(task);
                    return;
                }
            }
            taskCount--;
            beginScript(word(task, body));
        }

        private void leaveLoop() {
            taskCount--;
            if (scribe.code == 0 || scribe.code == 3) {
                scribe.succeed(scribe.empty);
            }
        }

        private void enterLoop(Task task) {
            // A code of the test is none of the loop's own, not even that of break.
            boolean tested = scribe.code == 0;
            if (isTrue()) {
                task.phase = Task.LOOP_BODY;
                beginScript(word(task, task.number - 1));
            } else if (tested && scribe.code == 0) {
                leaveLoop();
            } else {
                taskCount--;
            }
        }

        private void goOnLoop(Task task) {
            boolean inBody = task.phase == Task.LOOP_BODY;
            if (scribe.code != 0 && !(inBody && scribe.code == 4)) {
                if (task.phase == Task.LOOP_FIRST) {
                    taskCount--;
                } else {
                    leaveLoop();
                }
            } else if (inBody && task.number == 5) {
                task.phase = Task.LOOP_NEXT;
                beginScript(word(task, 3));
            } else {
                task.phase = Task.LOOP_TEST;
            }
        }

        private void nextRound(Task task) {
            if (!hasMore(task)) {
                scribe.code = 0;
                leaveLoop();
                return;
            }
            for (int pair = 0; pair + 2 < task.plan.length; pair += 3) {
                int first = task.plan[pair];
                int names = task.plan[pair + 1];
                for (int i = 0; i < names; i++) {
                    int element = task.index * names + i;
                    boolean there = element < task.plan[pair + 2];
                    store.nameParts(words[first + 2 * i], words[first + 2 * i + 1]);
                    if (!store.write(there ? words[first + 2 * names + element] : scribe.empty)) {
                        taskCount--;
                        return;
                    }
                }
            }
            task.phase = Task.ROUND_DONE;
            beginScript(word(task, task.number - 1));
        }

        private static boolean hasMore(Task task) {
            for (int pair = 0; pair + 2 < task.plan.length; pair += 3) {
                if (task.index * task.plan[pair + 1] < task.plan[pair + 2]) {
                    return true;
                }
            }
            return false;
        }

        private void roundDone(Task task) {
            if (scribe.code == 0 || scribe.code == 4) {
                task.index++;
                task.phase = Task.ROUND;
            } else {
                leaveLoop();
            }
        }
    }
}
