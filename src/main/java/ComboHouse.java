import java.util.NoSuchElementException;

/** Programs made of combinators: read, typed, rooted, bounded and worked (see README.md). */
public final class ComboHouse {
    private static final int MOST = 2147483647;
    private static final int TEXT = 8192;
    private static final int NODES = 400;
    private static final int MADE = 2000;
    private static final int HIDDENS = 256;
    private static final int WIDEST = 2048;
    private static final int MOST_STEPS = 1000000;
    private static final int JET_COUNT = 168;

    private static final int COMP = 0;
    private static final int CASE = 1;
    private static final int PAIR = 2;
    private static final int LEFT = 3;
    private static final int RIGHT = 4;
    private static final int TAKE = 5;
    private static final int DROP = 6;
    private static final int IDEN = 7;
    private static final int UNIT = 8;
    private static final int FAIL = 9;
    private static final int WITNESS = 10;
    private static final int HIDDEN = 11;
    private static final int JET = 12;
    private static final int NEW = 13;

    private final Row tape = new Row();
    private final Row written = new Row();
    private final Row pen = new Row();
    private final Order order = new Order();
    private final Code code = new Code();
    private final Machine machine = new Machine(code);
    private final Roots roots = new Roots();
    private final Loader loader = new Loader(order);
    private final Speech speech = new Speech(order);
    private Program program = new Program();
    private Program draft = new Program();
    private int loadError;
    private int runs;
    private int usedCells;
    private int usedFrames;
    private int usedSteps;
    private int place;

    public ComboHouse() {
    }

    public int feed(int n, long v) throws IllegalArgumentException, IllegalStateException {
        if (n < 1 || n > 8) {
            throw new IllegalArgumentException("1 to 8 bytes are fed");
        }
        if (tape.size + n > TEXT) {
            throw new IllegalStateException("the tape is full");
        }
        for (int i = 0; i < n; i++) {
            tape.put((int) (v >>> 8 * i) & 255);
        }
        return tape.size;
    }

    public int wipe() {
        int had = tape.size;
        tape.clear();
        return had;
    }

    public int load() {
        loadError = loader.readProgram(tape, draft);
        tape.clear();
        if (loadError == 0) {
            Program old = program;
            program = draft;
            draft = old;
            program.findBounds();
            program.compileInto(code);
            roots.forget();
        }
        return loadError;
    }

    public int run(int steps, int cells, boolean defined)
            throws IllegalArgumentException, IllegalStateException {
        if (steps < 1 || cells < 1) {
            throw new IllegalArgumentException("steps and cells are 1 or more");
        }
        if (program.count == 0) {
            throw new IllegalStateException("there is no program");
        }
        int answer = workTape(steps, cells, defined);
        tape.clear();
        return answer;
    }

    private int workTape(int steps, int cells, boolean defined) {
        int last = program.count - 1;
        if (!program.types.fitsWhole(tape, program.source[last])) {
            return -4;
        }
        int needed = program.allSteps();
        if (needed > steps || needed > MOST_STEPS || program.allCells() > cells) {
            return -2;
        }
        for (int i = 0; i < program.count && defined; i++) {
            if (program.code[i] == JET) {
                code.define(program.detail[i]);
            }
        }
        if (!machine.works(program, tape, defined)) {
            return -1;
        }
        pen.clear();
        machine.give(pen, program.sourceWidth(last), program.targetWidth(last));
        runs++;
        if (!defined) {
            usedCells = machine.peakCells;
            usedFrames = machine.peakFrames;
            usedSteps = machine.spentSteps();
        }
        return publish();
    }

    private int publish() {
        written.copy(pen);
        return written.size;
    }

    private boolean isNode(int i) {
        return i >= 0 && i < program.count;
    }

    public int node(int i, int what) throws NoSuchElementException {
        if (!isNode(i) || what < 0 || what > 7) {
            throw new NoSuchElementException("no such node or no such question");
        }
        switch (what) {
            case 0:
                return program.code[i];
            case 1:
                return program.code[i] == JET ? program.detail[i] : program.first[i];
            case 2:
                return program.second[i];
            case 3:
                return program.sourceWidth(i);
            case 4:
                return program.targetWidth(i);
            case 5:
                return program.cells[i];
            case 6:
                return program.frames[i];
            default:
                return program.steps[i];
        }
    }

    public long root(int i, int k) throws NoSuchElementException {
        if (!isNode(i) || k < 0 || k > 7) {
            throw new NoSuchElementException("no such node or word");
        }
        return roots.nodeWord(program, i, k);
    }

    public long typeRoot(int i, boolean target, int k) throws NoSuchElementException {
        if (!isNode(i) || k < 0 || k > 7) {
            throw new NoSuchElementException("no such node or word");
        }
        int type = program.typeOf(i, target);
        return type < 0 ? 0 : roots.typeWord(program, type, k);
    }

    public int type(int i, boolean target) throws NoSuchElementException {
        if (!isNode(i)) {
            throw new NoSuchElementException("no such node");
        }
        int type = program.typeOf(i, target);
        if (type < 0) {
            return -2;
        }
        if (program.types.textLength[type] > Types.LONGEST_TEXT) {
            return -1;
        }
        pen.clear();
        program.types.writeType(type, pen);
        return publish();
    }

    public int say() {
        int error = speech.tell(tape, draft, pen);
        place = speech.place;
        tape.clear();
        if (error == 0) {
            publish();
        }
        return error;
    }

    public int speak() throws IllegalStateException {
        if (program.count == 0) {
            throw new IllegalStateException("there is no program");
        }
        pen.clear();
        for (int i = 0; i < program.count && !pen.over; i++) {
            program.writeLine(i, pen);
        }
        return pen.over ? -1 : publish();
    }

    public int again() {
        tape.copy(written);
        return tape.size;
    }

    public int value(int i, boolean target) throws NoSuchElementException {
        if (!isNode(i)) {
            throw new NoSuchElementException("no such node");
        }
        int answer = tellValue(program.typeOf(i, target));
        tape.clear();
        return answer;
    }

    private int tellValue(int type) {
        if (type < 0) {
            return -2;
        }
        if (!program.types.fitsWhole(tape, type)) {
            return -4;
        }
        pen.clear();
        program.types.writeValue(tape, type, pen);
        return pen.over ? -1 : publish();
    }

    public int worth(int i, boolean target) throws NoSuchElementException {
        if (!isNode(i)) {
            throw new NoSuchElementException("no such node");
        }
        int answer = tellWorth(program.typeOf(i, target));
        tape.clear();
        return answer;
    }

    private int tellWorth(int type) {
        if (type < 0) {
            return -2;
        }
        pen.clear();
        return program.types.readValue(tape, type, pen) ? publish() : -4;
    }

    public int write() throws IllegalStateException {
        if (program.count == 0) {
            throw new IllegalStateException("there is no program");
        }
        written.copy(program.bytes);
        return written.size;
    }

    public long out(int k) throws NoSuchElementException {
        if (k < 0 || k >= written.size) {
            throw new NoSuchElementException("no such byte");
        }
        long eight = 0;
        for (int i = 7; i >= 0; i--) {
            eight = eight << 8 | written.at(k + i);
        }
        return eight;
    }

    public int look(int what) throws IllegalArgumentException {
        if (what < 0 || what > 14) {
            throw new IllegalArgumentException("no such question");
        }
        switch (what) {
            case 7:
                return tape.size;
            case 8:
                return written.size;
            case 9:
                return loadError;
            case 10:
                return runs;
            case 11:
                return usedCells;
            case 12:
                return usedFrames;
            case 13:
                return usedSteps;
            case 14:
                return place;
            default:
                return program.count == 0 ? 0 : lookAtProgram(what);
        }
    }

    private int lookAtProgram(int what) {
        switch (what) {
            case 0:
                return program.count;
            case 1:
                return program.sourceWidth(program.count - 1);
            case 2:
                return program.targetWidth(program.count - 1);
            case 3:
                return program.allCells();
            case 4:
                return program.allFrames();
            case 5:
                return program.allSteps();
            default:
                return program.witness;
        }
    }

    /** At most 8192 bytes, written byte by byte or bit by bit, never both without a clear between. */
    private static final class Row {
        final byte[] bytes = new byte[TEXT];
        int size;
        boolean over;
        private int bits;

        void clear() {
            size = 0;
            bits = 0;
            over = false;
        }

        void copy(Row other) {
            clear();
            size = other.size;
            System.arraycopy(other.bytes, 0, bytes, 0, size);
        }

        int at(int i) {
            return i >= 0 && i < size ? bytes[i] & 255 : 0;
        }

        int bit(int i) {
            return at(i >> 3) >> 7 - (i & 7) & 1;
        }

        boolean isZero(int from, int n) {
            for (int i = 0; i < n; i++) {
                if (bit(from + i) != 0) {
                    return false;
                }
            }
            return true;
        }

        void put(int b) {
            if (size < TEXT) {
                bytes[size] = (byte) b;
                size++;
            } else {
                over = true;
            }
        }

        void putBit(int bit) {
            if ((bits & 7) == 0) {
                put(0);
            }
            if (!over && bit != 0) {
                bytes[size - 1] |= (byte) (1 << 7 - (bits & 7));
            }
            bits = bits + 1 & 7;
        }

        void putBits(long value, int n) {
            for (int i = n - 1; i >= 0; i--) {
                putBit((int) (value >>> i) & 1);
            }
        }

        /** A natural is its length's length and so on inward, told as 1s, then all of them outward. */
        void putNatural(int n) {
            int ones = 0;
            for (int rest = n; rest > 1 && ones < 8; rest = lengthOf(rest)) {
                putBit(1);
                ones++;
            }
            putBit(0);
            for (int layer = ones - 1; layer >= 0; layer--) {
                int number = n;
                for (int i = 0; i < layer; i++) {
                    number = lengthOf(number);
                }
                putBits(number, lengthOf(number));
            }
        }

        private static int lengthOf(int n) {
            int length = 0;
            for (int bit = 1; bit < 31; bit++) {
                if (n >> bit != 0) {
                    length = bit;
                }
            }
            return length;
        }

        /** Nodes and jets have three digits at most. */
        void putNumber(int n) {
            if (n >= 100) {
                put('0' + n / 100 % 10);
            }
            if (n >= 10) {
                put('0' + n / 10 % 10);
            }
            put('0' + n % 10);
        }

        void putText(String text) {
            for (int i = 0; i < text.length(); i++) {
                put(text.charAt(i));
            }
        }

        /** A word of eight letters at most, told as one number. */
        void putLetters(long letters) {
            for (int i = 56; i >= 0; i -= 8) {
                int b = (int) (letters >>> i) & 255;
                if (b != 0) {
                    put(b);
                }
            }
        }

        void putDigit(int four) {
            put(four < 10 ? '0' + four : 'a' + four - 10);
        }

        /** What a digit 0 to 9, a to f is worth, or -1. */
        static int digit(int b) {
            if (b >= '0' && b <= '9') {
                return b - '0';
            }
            return b >= 'a' && b <= 'f' ? b - 'a' + 10 : -1;
        }
    }

    /** Nodes with what is known of them: a loaded program, or one that is being made. */
    private static final class Program {
        int count;
        final int[] code = new int[MADE];
        final int[] first = new int[MADE];
        final int[] second = new int[MADE];
        /** A JET's number, where a HIDDEN node's bits are, where a WITNESS's row begins. */
        final int[] detail = new int[MADE];
        /** How long the row is that a speech tells of a WITNESS. */
        final int[] span = new int[MADE];
        final int[] source = new int[MADE];
        final int[] target = new int[MADE];
        final int[] cells = new int[NODES];
        final int[] frames = new int[NODES];
        final int[] steps = new int[NODES];
        final int[] hidden = new int[HIDDENS * 8];
        final Row bytes = new Row();
        final Types types = new Types();
        int witness;
        private int hiddens;

        void clear() {
            count = 0;
            hiddens = 0;
            witness = 0;
        }

        /** The caller has looked that fewer than MADE are there. */
        int add(int kind) {
            int n = count;
            code[n] = kind;
            first[n] = -1;
            second[n] = -1;
            detail[n] = 0;
            span[n] = 0;
            count++;
            return n;
        }

        void addCopy(int n, int firstChild, int secondChild) {
            int made = add(code[n]);
            first[made] = firstChild;
            second[made] = secondChild;
            detail[made] = detail[n];
            span[made] = span[n];
        }

        /** Eight words for a HIDDEN node's bits; 8192 bytes can't tell of more than HIDDENS of them. */
        int addHidden() {
            int at = hiddens < HIDDENS ? hiddens : HIDDENS - 1;
            hiddens = at + 1;
            return 8 * at;
        }

        int typeOf(int n, boolean wantsTarget) {
            return wantsTarget ? target[n] : source[n];
        }

        int sourceWidth(int n) {
            return source[n] < 0 ? -1 : types.width[source[n]];
        }

        int targetWidth(int n) {
            return target[n] < 0 ? -1 : types.width[target[n]];
        }

        int allCells() {
            int last = count - 1;
            return capped((long) cells[last] + sourceWidth(last) + targetWidth(last));
        }

        int allFrames() {
            return capped(frames[count - 1] + 2L);
        }

        int allSteps() {
            return steps[count - 1];
        }

        static int capped(long n) {
            return n > MOST ? MOST : (int) n;
        }

        /** Hidden children have bounds of 0, so that they never are the greater ones. */
        void findBounds() {
            for (int n = 0; n < count; n++) {
                cells[n] = 0;
                frames[n] = 0;
                steps[n] = capped(1L + ownSteps(n));
                int s = first[n];
                int t = second[n];
                if (s >= 0) {
                    cells[n] = cells[s];
                    frames[n] = frames[s];
                    steps[n] = capped(1L + steps[s]);
                }
                if (t >= 0) {
                    joinBounds(n, s, t);
                }
            }
        }

        private void joinBounds(int n, int s, int t) {
            cells[n] = Math.max(cells[s], cells[t]);
            frames[n] = Math.max(frames[s], frames[t]);
            if (code[n] == CASE) {
                steps[n] = capped(1L + Math.max(steps[s], steps[t]));
            } else {
                steps[n] = capped(1L + steps[s] + steps[t]);
            }
            if (code[n] == COMP) {
                cells[n] = capped((long) cells[n] + targetWidth(s));
                frames[n] = capped(1L + frames[n]);
            }
        }

        private int ownSteps(int n) {
            switch (code[n]) {
                case IDEN:
                    return sourceWidth(n);
                case WITNESS:
                    return targetWidth(n);
                case JET:
                    return sourceWidth(n) + targetWidth(n);
                case HIDDEN:
                    return -1;
                default:
                    return 0;
            }
        }

        /** Types come down to the places that they set: what is skipped, and what is copied. */
        void compileInto(Code made) {
            for (int n = 0; n < count; n++) {
                int skip = 0;
                int other = 0;
                switch (code[n]) {
                    case COMP:
                    case PAIR:
                        skip = targetWidth(first[n]);
                        break;
                    case LEFT:
                        skip = types.padding(target[n], types.left[target[n]]);
                        break;
                    case RIGHT:
                        skip = types.padding(target[n], types.right[target[n]]);
                        break;
                    case DROP:
                        skip = types.width[types.left[source[n]]];
                        break;
                    case CASE:
                        int sum = types.left[source[n]];
                        skip = 1 + types.padding(sum, types.left[sum]);
                        other = 1 + types.padding(sum, types.right[sum]);
                        break;
                    case IDEN:
                        skip = sourceWidth(n);
                        break;
                    case WITNESS:
                    case JET:
                        skip = detail[n];
                        other = ownSteps(n);
                        break;
                    default:
                        break;
                }
                made.place(n, code[n], first[n], second[n], skip, other);
            }
        }

        void writeLine(int n, Row pen) {
            pen.put('n');
            pen.putNumber(n);
            pen.putText(" = ");
            pen.putLetters(Speech.TONGUE[code[n]]);
            writeChild(first[n], pen);
            writeChild(second[n], pen);
            if (code[n] == JET) {
                pen.put(' ');
                pen.putNumber(detail[n]);
            } else if (code[n] == HIDDEN) {
                pen.put(' ');
                writeHidden(n, pen);
            } else if (code[n] == WITNESS) {
                pen.put(' ');
                writeWitness(n, pen);
            }
            pen.put(10);
        }

        private static void writeChild(int child, Row pen) {
            if (child >= 0) {
                pen.putText(" n");
                pen.putNumber(child);
            }
        }

        private void writeHidden(int n, Row pen) {
            for (int i = 0; i < 64; i++) {
                pen.putDigit(hidden[detail[n] + (i >> 3)] >>> 28 - 4 * (i & 7) & 15);
            }
        }

        private void writeWitness(int n, Row pen) {
            int wide = targetWidth(n);
            if (wide == 0) {
                pen.put('-');
            }
            for (int i = 0; i < wide && !pen.over; i++) {
                pen.put('0' + bytes.bit(detail[n] + i));
            }
        }
    }

    /** Types that are found, each once: the same type has the same number, parts have lower ones. */
    private static final class Types {
        static final int ONE = 0;
        static final int SUM = 1;
        static final int PRODUCT = 2;
        static final int ROOM = 7 * MADE + 32;
        static final int LONGEST_TEXT = 300;
        private static final int HEADS = 2048;
        private static final int STACK = ROOM + 16;
        /** Far above each width and length that is asked for, far below an int's end. */
        private static final int VAST = 1000000;

        int count;
        final int[] kind = new int[ROOM];
        final int[] left = new int[ROOM];
        final int[] right = new int[ROOM];
        final int[] width = new int[ROOM];
        /** For WORD n: n, else 0. */
        final int[] word = new int[ROOM];
        /** Whether each row of as many bits is a value, so that none needs to be looked at. */
        final boolean[] full = new boolean[ROOM];
        final int[] textLength = new int[ROOM];
        private final int[] next = new int[ROOM];
        private final int[] head = new int[HEADS];
        private final int[] stack = new int[STACK];
        private int top;

        void clear() {
            count = 0;
            for (int i = 0; i < HEADS; i++) {
                head[i] = -1;
            }
        }

        int add(int k, int l, int r) {
            int slot = (k + 31 * l + 1009 * r) * 40503 >>> 4 & HEADS - 1;
            int t = head[slot];
            for (int i = 0; i < ROOM && t >= 0; i++) {
                if (kind[t] == k && left[t] == l && right[t] == r) {
                    return t;
                }
                t = next[t];
            }
            if (count >= ROOM) {
                return 0;
            }
            t = count;
            count++;
            next[t] = head[slot];
            head[slot] = t;
            describe(t, k, l, r);
            return t;
        }

        private void describe(int t, int k, int l, int r) {
            kind[t] = k;
            left[t] = l;
            right[t] = r;
            width[t] = 0;
            word[t] = 0;
            full[t] = true;
            textLength[t] = 1;
            if (k == ONE) {
                return;
            }
            textLength[t] = Math.min(VAST, 3 + textLength[l] + textLength[r]);
            full[t] = full[l] && full[r];
            if (k == SUM) {
                width[t] = Math.min(VAST, 1 + Math.max(width[l], width[r]));
                full[t] = full[t] && width[l] == width[r];
                word[t] = kind[l] == ONE && kind[r] == ONE ? 1 : 0;
            } else {
                width[t] = Math.min(VAST, width[l] + width[r]);
                word[t] = l == r ? Math.min(VAST, 2 * word[l]) : 0;
            }
        }

        /** How many 0s stand ahead of a value of the part, behind the first bit of a sum. */
        int padding(int sum, int part) {
            return width[sum] - 1 - width[part];
        }

        private void push(int item) {
            if (top < STACK) {
                stack[top] = item;
                top++;
            }
        }

        boolean fitsWhole(Row row, int t) {
            int wide = width[t];
            return row.size == (wide + 7) / 8 && row.isZero(wide, 8 * row.size - wide) && fits(row, 0, t);
        }

        /** Whether the bits from there on are a value of the type. */
        boolean fits(Row row, int from, int t) {
            int at = from;
            top = 0;
            push(t);
            for (int turn = 0; turn < WIDEST * ROOM && top > 0; turn++) {
                top--;
                int item = stack[top];
                if (full[item]) {
                    at += width[item];
                } else if (kind[item] == PRODUCT) {
                    push(right[item]);
                    push(left[item]);
                } else {
                    int part = row.bit(at) == 0 ? left[item] : right[item];
                    int zeros = padding(item, part);
                    if (!row.isZero(at + 1, zeros)) {
                        return false;
                    }
                    at += 1 + zeros;
                    push(part);
                }
            }
            return true;
        }

        /** Items that wait are types, or bytes to be written as they are, told below 0. */
        private void pushParts(int t, int between) {
            push(-')');
            push(right[t]);
            push(-between);
            push(left[t]);
        }

        void writeType(int t, Row pen) {
            top = 0;
            push(t);
            for (int turn = 0; turn <= LONGEST_TEXT && top > 0; turn++) {
                top--;
                int item = stack[top];
                if (item < 0) {
                    pen.put(-item);
                } else if (kind[item] == ONE) {
                    pen.put('1');
                } else {
                    pen.put('(');
                    pushParts(item, kind[item] == SUM ? '+' : '*');
                }
            }
        }

        /** Each item writes a byte at least, so that the pen is over before the items grow too many. */
        void writeValue(Row row, int t, Row pen) {
            int at = 0;
            top = 0;
            push(t);
            for (int turn = 0; turn <= TEXT && top > 0 && !pen.over; turn++) {
                top--;
                int item = stack[top];
                if (item < 0) {
                    pen.put(-item);
                } else {
                    at = writePart(row, at, item, pen);
                }
            }
        }

        private int writePart(Row row, int at, int t, Row pen) {
            if (kind[t] == ONE) {
                pen.put('U');
                return at;
            }
            if (word[t] == 1) {
                pen.put('0' + row.bit(at));
                return at + 1;
            }
            if (word[t] >= 4) {
                pen.put('#');
                for (int i = 0; i < word[t]; i += 4) {
                    pen.putDigit(8 * row.bit(at + i) + 4 * row.bit(at + i + 1)
                            + 2 * row.bit(at + i + 2) + row.bit(at + i + 3));
                }
                return at + word[t];
            }
            if (kind[t] == PRODUCT) {
                pen.put('(');
                pushParts(t, ',');
                return at;
            }
            boolean isLeft = row.bit(at) == 0;
            int part = isLeft ? left[t] : right[t];
            pen.put(isLeft ? 'L' : 'R');
            push(part);
            return at + 1 + padding(t, part);
        }

        /** Whether the whole text is that of a value, whose bits then are the pen's. */
        boolean readValue(Row text, int t, Row pen) {
            int at = 0;
            top = 0;
            push(t);
            for (int turn = 0; turn <= TEXT && top > 0; turn++) {
                top--;
                int item = stack[top];
                if (item >= 0) {
                    at = readPart(text, at, item, pen);
                } else {
                    at = text.at(at) == -item ? at + 1 : -1;
                }
                if (at < 0) {
                    return false;
                }
            }
            return top == 0 && at == text.size;
        }

        /** The place behind the part, or -1 when its text is not there. */
        private int readPart(Row text, int at, int t, Row pen) {
            int b = text.at(at);
            if (kind[t] == ONE) {
                return b == 'U' ? at + 1 : -1;
            }
            if (word[t] == 1) {
                pen.putBit(b - '0');
                return b == '0' || b == '1' ? at + 1 : -1;
            }
            if (word[t] >= 4) {
                return b == '#' ? readDigits(text, at + 1, word[t] / 4, pen) : -1;
            }
            if (kind[t] == PRODUCT) {
                pushParts(t, ',');
                return b == '(' ? at + 1 : -1;
            }
            if (b != 'L' && b != 'R') {
                return -1;
            }
            int part = b == 'L' ? left[t] : right[t];
            pen.putBit(b == 'L' ? 0 : 1);
            pen.putBits(0, padding(t, part));
            push(part);
            return at + 1;
        }

        private static int readDigits(Row text, int at, int n, Row pen) {
            for (int i = 0; i < n; i++) {
                int four = Row.digit(text.at(at + i));
                if (four < 0) {
                    return -1;
                }
                pen.putBits(four, 4);
            }
            return at + n;
        }
    }

    /** Finds the most general types: terms that are made equal, until all rules hold. */
    private static final class Finder {
        private static final int OPEN = 3;
        private static final int ROOM = Types.ROOM;
        private static final int WORDS = 1;
        private static final int CARRY_WORD = 10;
        private static final int CARRY_WORDS = 14;
        private static final int THREE_WORDS = 18;
        private static final int BYTE_WORD = 22;
        private static final int FIXED = 26;
        private static final int UNSEEN = -1;
        private static final int ENTERED = -2;

        private final int[] kind = new int[ROOM];
        private final int[] left = new int[ROOM];
        private final int[] right = new int[ROOM];
        private final int[] up = new int[ROOM];
        private final int[] found = new int[ROOM];
        private final int[] stack = new int[2 * ROOM];
        private int count;
        private int top;

        Finder() {
            fix(0, Types.ONE, 0, 0);
            fix(WORDS, Types.SUM, 0, 0);
            for (int level = 1; level <= 8; level++) {
                fix(WORDS + level, Types.PRODUCT, WORDS + level - 1, WORDS + level - 1);
            }
            for (int m = 0; m < 4; m++) {
                int w = WORDS + 3 + m;
                fix(CARRY_WORD + m, Types.PRODUCT, WORDS, w);
                fix(CARRY_WORDS + m, Types.PRODUCT, WORDS, w + 1);
                fix(THREE_WORDS + m, Types.PRODUCT, w, w + 1);
                fix(BYTE_WORD + m, Types.PRODUCT, WORDS + 3, w);
            }
        }

        private void fix(int t, int k, int l, int r) {
            kind[t] = k;
            left[t] = l;
            right[t] = r;
        }

        private static int shapeTerm(int shape, int m) {
            switch (shape) {
                case Jets.BIT:
                    return WORDS;
                case Jets.HALF:
                    return WORDS + 2 + m;
                case Jets.WORD:
                    return WORDS + 3 + m;
                case Jets.TWO_WORDS:
                    return WORDS + 4 + m;
                case Jets.FOUR_WORDS:
                    return WORDS + 5 + m;
                case Jets.EIGHT_BITS:
                    return WORDS + 3;
                case Jets.CARRY_WORD:
                    return CARRY_WORD + m;
                case Jets.CARRY_WORDS:
                    return CARRY_WORDS + m;
                case Jets.THREE_WORDS:
                    return THREE_WORDS + m;
                case Jets.BYTE_WORD:
                    return BYTE_WORD + m;
                default:
                    return 0;
            }
        }

        /** Whether the nodes of the list, children ahead, have finite types; these are then theirs. */
        boolean solve(Program p, int[] list, int size) {
            for (int t = 0; t < FIXED; t++) {
                up[t] = t;
                found[t] = UNSEEN;
            }
            count = FIXED;
            for (int i = 0; i < size; i++) {
                if (!rule(p, list[i])) {
                    return false;
                }
            }
            p.types.clear();
            for (int i = 0; i < size; i++) {
                int n = list[i];
                if (p.code[n] != HIDDEN) {
                    if (!resolve(p.source[n], p.types) || !resolve(p.target[n], p.types)) {
                        return false;
                    }
                    p.source[n] = found[find(p.source[n])];
                    p.target[n] = found[find(p.target[n])];
                }
            }
            return true;
        }

        private boolean rule(Program p, int n) {
            int s = p.first[n];
            int t = p.second[n];
            switch (p.code[n]) {
                case COMP:
                    set(p, n, p.source[s], p.target[t]);
                    return unify(p.target[s], p.source[t]);
                case CASE:
                    return caseRule(p, n, s, t);
                case PAIR:
                    set(p, n, p.source[s], term(Types.PRODUCT, p.target[s], p.target[t]));
                    return unify(p.source[s], p.source[t]);
                case LEFT:
                    set(p, n, p.source[s], term(Types.SUM, p.target[s], open()));
                    return true;
                case RIGHT:
                    set(p, n, p.source[s], term(Types.SUM, open(), p.target[s]));
                    return true;
                case TAKE:
                    set(p, n, term(Types.PRODUCT, p.source[s], open()), p.target[s]);
                    return true;
                case DROP:
                    set(p, n, term(Types.PRODUCT, open(), p.source[s]), p.target[s]);
                    return true;
                case IDEN:
                    int same = open();
                    set(p, n, same, same);
                    return true;
                case UNIT:
                    set(p, n, open(), 0);
                    return true;
                case JET:
                    int k = p.detail[n] >> 2;
                    int m = p.detail[n] & 3;
                    set(p, n, shapeTerm(Jets.SOURCE[k], m), shapeTerm(Jets.TARGET[k], m));
                    return true;
                case HIDDEN:
                    set(p, n, -1, -1);
                    return true;
                default:
                    set(p, n, open(), open());
                    return true;
            }
        }

        private boolean caseRule(Program p, int n, int s, int t) {
            int a = open();
            int b = open();
            int c = open();
            int d = p.code[s] != HIDDEN ? p.target[s] : p.target[t];
            set(p, n, term(Types.PRODUCT, term(Types.SUM, a, b), c), d);
            boolean good = true;
            if (p.code[s] != HIDDEN) {
                good = unify(term(Types.PRODUCT, a, c), p.source[s]);
            }
            if (p.code[t] != HIDDEN) {
                good = good && unify(term(Types.PRODUCT, b, c), p.source[t]) && unify(d, p.target[t]);
            }
            return good;
        }

        private static void set(Program p, int n, int source, int target) {
            p.source[n] = source;
            p.target[n] = target;
        }

        private int open() {
            return term(OPEN, 0, 0);
        }

        /** A node makes seven terms at most, so that there is room for all. */
        private int term(int k, int l, int r) {
            if (count >= ROOM) {
                return 0;
            }
            int t = count;
            count++;
            kind[t] = k;
            left[t] = l;
            right[t] = r;
            up[t] = t;
            found[t] = UNSEEN;
            return t;
        }

        private int find(int term) {
            int t = term;
            for (int i = 0; i < ROOM && up[t] != t; i++) {
                up[t] = up[up[t]];
                t = up[t];
            }
            return t;
        }

        /** Each turn that lays two more pairs down makes two terms one, so that the turns end. */
        private boolean unify(int one, int two) {
            top = 0;
            pushPair(one, two);
            for (int turn = 0; turn < 4 * ROOM && top > 0; turn++) {
                top -= 2;
                int a = find(stack[top]);
                int b = find(stack[top + 1]);
                if (a == b) {
                    continue;
                }
                if (kind[a] == OPEN) {
                    up[a] = b;
                } else if (kind[b] == OPEN) {
                    up[b] = a;
                } else if (kind[a] != kind[b]) {
                    return false;
                } else {
                    up[b] = a;
                    if (kind[a] != Types.ONE) {
                        pushPair(right[a], right[b]);
                        pushPair(left[a], left[b]);
                    }
                }
            }
            return true;
        }

        private void pushPair(int a, int b) {
            if (top + 1 < 2 * ROOM) {
                stack[top] = a;
                stack[top + 1] = b;
                top += 2;
            }
        }

        /** Parts ahead of the whole; a term that is entered and met again is a part of itself. */
        private boolean resolve(int term, Types types) {
            stack[0] = find(term);
            top = 1;
            for (int turn = 0; turn < 4 * ROOM && top > 0; turn++) {
                int t = stack[top - 1];
                if (found[t] >= 0) {
                    top--;
                } else if (kind[t] == OPEN || kind[t] == Types.ONE) {
                    found[t] = types.add(Types.ONE, 0, 0);
                } else {
                    found[t] = ENTERED;
                    int l = find(left[t]);
                    int r = find(right[t]);
                    if (found[l] == ENTERED || found[r] == ENTERED) {
                        return false;
                    }
                    if (found[l] >= 0 && found[r] >= 0) {
                        found[t] = types.add(kind[t], found[l], found[r]);
                    } else {
                        stack[top] = found[l] < 0 ? l : r;
                        top++;
                    }
                }
            }
            return true;
        }
    }

    /** Goes through nodes, children ahead, and judges what it has gone through. */
    private static final class Order {
        private static final int HEADS = 1024;

        final int[] list = new int[MADE];
        /** Where in the list a node stands. */
        final int[] spot = new int[MADE];
        int size;
        private final int[] met = new int[MADE];
        private final int[] stack = new int[MADE];
        private final int[] twin = new int[MADE];
        private final int[] next = new int[MADE];
        private final int[] head = new int[HEADS];
        private final Finder finder = new Finder();
        private int walks;

        void walk(Program p, int from) {
            walks++;
            size = 0;
            int top = 1;
            stack[0] = from;
            met[from] = walks;
            for (int turn = 0; turn < 2 * MADE && top > 0; turn++) {
                int n = stack[top - 1];
                int child = p.first[n];
                if (child < 0 || met[child] == walks) {
                    child = p.second[n];
                }
                if (child < 0 || met[child] == walks) {
                    spot[n] = size;
                    list[size] = n;
                    size++;
                    top--;
                } else {
                    met[child] = walks;
                    stack[top] = child;
                    top++;
                }
            }
        }

        boolean isCounting(int count) {
            if (size != count) {
                return false;
            }
            for (int i = 0; i < size; i++) {
                if (list[i] != i) {
                    return false;
                }
            }
            return true;
        }

        /** The errors 7, 8 and 9 of the nodes that were gone through, whose types are then found. */
        int judge(Program p) {
            if (p.code[list[size - 1]] == HIDDEN) {
                return 7;
            }
            for (int i = 0; i < size; i++) {
                if (!hidesWell(p, list[i])) {
                    return 7;
                }
            }
            if (!finder.solve(p, list, size)) {
                return 8;
            }
            for (int i = 0; i < size; i++) {
                if (p.sourceWidth(list[i]) > WIDEST || p.targetWidth(list[i]) > WIDEST) {
                    return 9;
                }
            }
            return 0;
        }

        private static boolean hidesWell(Program p, int n) {
            int s = p.first[n];
            int t = p.second[n];
            boolean hidesFirst = s >= 0 && p.code[s] == HIDDEN;
            boolean hidesSecond = t >= 0 && p.code[t] == HIDDEN;
            if (p.code[n] == CASE) {
                return !hidesFirst || !hidesSecond;
            }
            return !hidesFirst && !hidesSecond;
        }

        /** Nodes that are the same become one, from the children on: how many became another one. */
        int merge(Program p) {
            int merged = 0;
            for (int i = 0; i < HEADS; i++) {
                head[i] = -1;
            }
            for (int i = 0; i < size; i++) {
                int n = list[i];
                if (p.first[n] >= 0) {
                    p.first[n] = twin[p.first[n]];
                }
                if (p.second[n] >= 0) {
                    p.second[n] = twin[p.second[n]];
                }
                twin[n] = twinOf(p, n);
                if (twin[n] != n) {
                    merged++;
                }
            }
            return merged;
        }

        int mergedInto(int n) {
            return twin[n];
        }

        private int twinOf(Program p, int n) {
            if (p.code[n] == WITNESS) {
                return n;
            }
            int slot = slotOf(p, n);
            int other = head[slot];
            for (int i = 0; i < MADE && other >= 0; i++) {
                if (areSame(p, n, other)) {
                    return other;
                }
                other = next[other];
            }
            next[n] = head[slot];
            head[slot] = n;
            return n;
        }

        private static int slotOf(Program p, int n) {
            int mix = p.code[n];
            if (mix == HIDDEN) {
                mix += p.hidden[p.detail[n]] * 31;
            } else {
                mix = mix * 31 + p.first[n];
                mix = mix * 31 + p.second[n];
                mix = mix * 31 + p.detail[n];
                mix = mix * 31 + p.source[n];
                mix = mix * 31 + p.target[n];
            }
            return mix * 40503 >>> 4 & HEADS - 1;
        }

        private static boolean areSame(Program p, int n, int o) {
            if (p.code[n] != p.code[o]) {
                return false;
            }
            if (p.code[n] != HIDDEN) {
                return p.first[n] == p.first[o] && p.second[n] == p.second[o] && p.detail[n] == p.detail[o]
                        && p.source[n] == p.source[o] && p.target[n] == p.target[o];
            }
            for (int i = 0; i < 8; i++) {
                if (p.hidden[p.detail[n] + i] != p.hidden[p.detail[o] + i]) {
                    return false;
                }
            }
            return true;
        }
    }

    /** Reads a row of bytes as a program. */
    private static final class Loader {
        private final Order order;
        private Program program;
        private Row row;
        private int at;
        private int end;
        private int fault;

        Loader(Order order) {
            this.order = order;
        }

        /** 0, or the first error that is met. */
        int readProgram(Row tape, Program p) {
            program = p;
            program.clear();
            program.bytes.copy(tape);
            row = program.bytes;
            at = 0;
            end = 8 * row.size;
            fault = 0;
            int count = readNatural();
            if (fault == 0 && count > NODES) {
                fault = 4;
            }
            for (int i = 0; i < count && fault == 0; i++) {
                readNode();
            }
            if (fault != 0) {
                return fault;
            }
            order.walk(program, program.count - 1);
            if (!order.isCounting(program.count)) {
                return 5;
            }
            int error = order.judge(program);
            if (error != 0) {
                return error;
            }
            if (order.merge(program) > 0) {
                return 6;
            }
            readWitness();
            return fault;
        }

        private void readNode() {
            int kind = readBits(5);
            if (fault == 0 && kind > JET) {
                fault = 2;
            }
            if (fault != 0) {
                return;
            }
            int n = program.add(kind);
            if (kind <= DROP) {
                program.first[n] = readChild(n);
            }
            if (kind <= PAIR && fault == 0) {
                program.second[n] = readChild(n);
            }
            if (kind == HIDDEN) {
                readHidden(n);
            }
            if (kind == JET) {
                program.detail[n] = readBits(8);
                if (fault == 0 && program.detail[n] >= JET_COUNT) {
                    fault = 2;
                }
            }
        }

        private int readChild(int n) {
            int back = readNatural();
            if (fault == 0 && back > n) {
                fault = 3;
            }
            return fault == 0 ? n - back : -1;
        }

        private void readHidden(int n) {
            int words = program.addHidden();
            program.detail[n] = words;
            for (int i = 0; i < 8 && fault == 0; i++) {
                program.hidden[words + i] = readBits(16) << 16 | readBits(16);
            }
        }

        private void readWitness() {
            program.witness = readNatural() - 1;
            if (fault == 0 && program.witness > end - at) {
                fault = 1;
            }
            if (fault != 0) {
                return;
            }
            long wanted = 0;
            for (int n = 0; n < program.count; n++) {
                if (program.code[n] == WITNESS) {
                    wanted += program.targetWidth(n);
                }
            }
            if (wanted != program.witness) {
                fault = 10;
            } else {
                readRows();
            }
        }

        private void readRows() {
            for (int n = 0; n < program.count; n++) {
                if (program.code[n] == WITNESS) {
                    program.detail[n] = at;
                    if (!program.types.fits(row, at, program.target[n])) {
                        fault = 11;
                        return;
                    }
                    at += program.targetWidth(n);
                }
            }
            if (end - at >= 8 || !row.isZero(at, end - at)) {
                fault = 12;
            }
        }

        private int readBits(int n) {
            if (fault == 0 && end - at < n) {
                fault = 1;
            }
            if (fault != 0) {
                return 0;
            }
            int number = 0;
            for (int i = 0; i < n; i++) {
                number = number << 1 | row.bit(at + i);
            }
            at += n;
            return number;
        }

        /** As many layers as 1s stand ahead, each telling the length of the next. */
        private int readNatural() {
            int ones = 0;
            while (at < end && row.bit(at) == 1) {
                ones++;
                at++;
            }
            readBits(1);
            int number = 1;
            for (int i = 0; i < ones && fault == 0; i++) {
                if (number > 15) {
                    fault = 4;
                } else {
                    number = 1 << number | readBits(number);
                }
            }
            return number;
        }
    }

    /** Roots of the loaded program's nodes and types, worked out when one is first asked for. */
    private static final class Roots {
        private static final int TYPES = 7 * NODES + 32;
        private static final int TYPE_LEAVES = 13;
        private static final int[] START = {
            0x6a09e667, 0xbb67ae85, 0x3c6ef372, 0xa54ff53a, 0x510e527f, 0x9b05688c, 0x1f83d9ab, 0x5be0cd19
        };
        private static final int[] K = {
            0x428a2f98, 0x71374491, 0xb5c0fbcf, 0xe9b5dba5, 0x3956c25b, 0x59f111f1, 0x923f82a4, 0xab1c5ed5,
            0xd807aa98, 0x12835b01, 0x243185be, 0x550c7dc3, 0x72be5d74, 0x80deb1fe, 0x9bdc06a7, 0xc19bf174,
            0xe49b69c1, 0xefbe4786, 0x0fc19dc6, 0x240ca1cc, 0x2de92c6f, 0x4a7484aa, 0x5cb0a9dc, 0x76f988da,
            0x983e5152, 0xa831c66d, 0xb00327c8, 0xbf597fc7, 0xc6e00bf3, 0xd5a79147, 0x06ca6351, 0x14292967,
            0x27b70a85, 0x2e1b2138, 0x4d2c6dfc, 0x53380d13, 0x650a7354, 0x766a0abb, 0x81c2c92e, 0x92722c85,
            0xa2bfe8a1, 0xa81a664b, 0xc24b8b70, 0xc76c51a3, 0xd192e819, 0xd6990624, 0xf40e3585, 0x106aa070,
            0x19a4c116, 0x1e376c08, 0x2748774c, 0x34b0bcb5, 0x391c0cb3, 0x4ed8aa4a, 0x5b9cca4f, 0x682e6ff3,
            0x748f82ee, 0x78a5636f, 0x84c87814, 0x8cc70208, 0x90befffa, 0xa4506ceb, 0xbef9a3f7, 0xc67178f2
        };

        private final int[] ofNodes = new int[8 * NODES];
        private final int[] ofTypes = new int[8 * TYPES];
        /** LEAF of the codes 0 to 12, and of the three kinds of types behind them. */
        private final int[] leaves = new int[8 * 16];
        private final int[] w = new int[64];
        private boolean knowsLeaves;
        private boolean knowsNodes;
        private boolean knowsTypes;

        void forget() {
            knowsNodes = false;
            knowsTypes = false;
        }

        long nodeWord(Program p, int n, int k) {
            if (!knowsNodes) {
                findLeaves();
                for (int i = 0; i < p.count; i++) {
                    findNode(p, i);
                }
                knowsNodes = true;
            }
            return ofNodes[8 * n + k] & 0xffffffffL;
        }

        long typeWord(Program p, int t, int k) {
            if (!knowsTypes) {
                findLeaves();
                for (int i = 0; i < p.types.count && i < TYPES; i++) {
                    findType(p.types, i);
                }
                knowsTypes = true;
            }
            return t < TYPES ? ofTypes[8 * t + k] & 0xffffffffL : 0;
        }

        private void findLeaves() {
            if (knowsLeaves) {
                return;
            }
            for (int i = 0; i < 16; i++) {
                leaf(i < TYPE_LEAVES ? i : 208 + i - TYPE_LEAVES, leaves, i);
            }
            knowsLeaves = true;
        }

        private void findNode(Program p, int n) {
            int kind = p.code[n];
            if (kind == HIDDEN) {
                System.arraycopy(p.hidden, p.detail[n], ofNodes, 8 * n, 8);
            } else if (kind == JET) {
                leaf(32 + p.detail[n], ofNodes, n);
            } else if (kind > DROP) {
                System.arraycopy(leaves, 8 * kind, ofNodes, 8 * n, 8);
            } else if (kind > PAIR) {
                for (int i = 0; i < 8; i++) {
                    w[i] = 0;
                }
                System.arraycopy(ofNodes, 8 * p.first[n], w, 8, 8);
                compress(leaves, kind, ofNodes, n);
            } else {
                System.arraycopy(ofNodes, 8 * p.first[n], w, 0, 8);
                System.arraycopy(ofNodes, 8 * p.second[n], w, 8, 8);
                compress(leaves, kind, ofNodes, n);
            }
        }

        private void findType(Types types, int t) {
            int kind = TYPE_LEAVES + types.kind[t];
            if (types.kind[t] == Types.ONE) {
                System.arraycopy(leaves, 8 * kind, ofTypes, 8 * t, 8);
            } else {
                System.arraycopy(ofTypes, 8 * types.left[t], w, 0, 8);
                System.arraycopy(ofTypes, 8 * types.right[t], w, 8, 8);
                compress(leaves, kind, ofTypes, t);
            }
        }

        private void leaf(int x, int[] to, int spot) {
            w[0] = x;
            for (int i = 1; i < 16; i++) {
                w[i] = 0;
            }
            compress(START, 0, to, spot);
        }

        /** C of the eight words at one spot and of the first sixteen of w, laid down at another spot. */
        private void compress(int[] start, int startSpot, int[] to, int spot) {
            for (int t = 16; t < 64; t++) {
                int x = w[t - 15];
                int y = w[t - 2];
                w[t] = (turn(y, 17) ^ turn(y, 19) ^ y >>> 10) + w[t - 7]
                        + (turn(x, 7) ^ turn(x, 18) ^ x >>> 3) + w[t - 16];
            }
            int from = 8 * startSpot;
            int a = start[from];
            int b = start[from + 1];
            int c = start[from + 2];
            int d = start[from + 3];
            int e = start[from + 4];
            int f = start[from + 5];
            int g = start[from + 6];
            int h = start[from + 7];
            for (int t = 0; t < 64; t++) {
                int more = h + (turn(e, 6) ^ turn(e, 11) ^ turn(e, 25)) + (e & f ^ ~e & g) + K[t] + w[t];
                int most = (turn(a, 2) ^ turn(a, 13) ^ turn(a, 22)) + (a & b ^ a & c ^ b & c);
                h = g;
                g = f;
                f = e;
                e = d + more;
                d = c;
                c = b;
                b = a;
                a = more + most;
            }
            int at = 8 * spot;
            to[at] = start[from] + a;
            to[at + 1] = start[from + 1] + b;
            to[at + 2] = start[from + 2] + c;
            to[at + 3] = start[from + 3] + d;
            to[at + 4] = start[from + 4] + e;
            to[at + 5] = start[from + 5] + f;
            to[at + 6] = start[from + 6] + g;
            to[at + 7] = start[from + 7] + h;
        }

        private static int turn(int x, int n) {
            return x >>> n | x << 32 - n;
        }
    }

    /** Reads a speech and writes the program that it tells. */
    private static final class Speech {
        private static final int END = 0;
        private static final int STRANGE = 1;
        private static final int EQUALS = 2;
        private static final int OPEN = 3;
        private static final int CLOSE = 4;
        private static final int PLAIN = 5;

        /** Letters of the words, by code: comp case pair left right take drop iden unit fail and so on. */
        static final long[] TONGUE = {
            0x636f6d70L, 0x63617365L, 0x70616972L, 0x6c656674L, 0x7269676874L, 0x74616b65L, 0x64726f70L,
            0x6964656eL, 0x756e6974L, 0x6661696cL, 0x7769746e657373L, 0x68696464656eL, 0x6a6574L, 0x6e6577L
        };

        private static final int REFUSED = -1;
        private static final int UNFINISHED = -2;
        private static final int BRACKET = -3;
        private static final int HEADS = 512;
        private static final int NAMES = 4096;

        int place;
        private final Order order;
        private final int[] stack = new int[TEXT];
        private final long[] names = new long[NAMES];
        private final int[] named = new int[NAMES];
        private final int[] next = new int[NAMES];
        private final int[] head = new int[HEADS];
        private int nameCount;
        private int depth;
        private Row text;
        private Program program;
        private int kind;
        private int from;
        private int to;
        /** The letters of a word that can be a name, else 0. */
        private long name;
        /** The code that a word of the tongue tells, or NEW, else -1. */
        private int code;
        private int fault;

        Speech(Order order) {
            this.order = order;
        }

        /** 0, and the pen has the program's bytes; or the first error that holds. */
        int tell(Row tape, Program p, Row pen) {
            text = tape;
            program = p;
            program.clear();
            place = 0;
            fault = 0;
            to = 0;
            nameCount = 0;
            for (int i = 0; i < HEADS; i++) {
                head[i] = -1;
            }
            boolean more = true;
            for (int turn = 0; turn < TEXT && more; turn++) {
                more = readDefinition();
            }
            if (fault != 0) {
                return fault;
            }
            int last = nameCount > 0 ? named[nameCount - 1] : 0;
            order.walk(program, last);
            int error = order.judge(program);
            if (error != 0) {
                return error;
            }
            order.merge(program);
            order.walk(program, order.mergedInto(last));
            if (order.size > NODES) {
                return 4;
            }
            error = judgeRows(pen);
            if (error != 0) {
                return error;
            }
            pen.clear();
            writeProgram(pen);
            return pen.over ? 4 : 0;
        }

        /** Whether one was there, and another may be. */
        private boolean readDefinition() {
            nextWord();
            if (kind == END && nameCount > 0) {
                return false;
            }
            long told = name;
            if (told == 0) {
                refuse(1, from);
                return false;
            }
            if (nodeOf(told) >= 0) {
                refuse(2, from);
                return false;
            }
            nextWord();
            if (kind != EQUALS) {
                refuse(1, from);
                return false;
            }
            int n = readExpression();
            if (n >= 0) {
                keepName(told, n);
            }
            return n >= 0;
        }

        private int refuse(int error, int where) {
            fault = error;
            place = where;
            return REFUSED;
        }

        /** Words are taken as they are looked for, so that a strange byte is met in its turn alone. */
        private void nextWord() {
            name = 0;
            code = -1;
            from = to;
            while (from < text.size && (text.at(from) == 10 || text.at(from) == 32)) {
                from++;
            }
            to = from;
            if (from >= text.size) {
                kind = END;
                return;
            }
            to = from + 1;
            int b = text.at(from);
            if (b == '=') {
                kind = EQUALS;
            } else if (b == '(') {
                kind = OPEN;
            } else if (b == ')') {
                kind = CLOSE;
            } else if (!isPlain(b)) {
                kind = STRANGE;
            } else {
                kind = PLAIN;
                while (to < text.size && isPlain(text.at(to))) {
                    to++;
                }
                spell();
            }
        }

        private static boolean isPlain(int b) {
            return b > 32 && b < 127 && b != '=' && b != '(' && b != ')';
        }

        /** Finds whether the word is one of the tongue, or can be a name. */
        private void spell() {
            if (to - from > 8) {
                return;
            }
            long letters = 0;
            for (int i = from; i < to; i++) {
                int b = text.at(i);
                boolean isLetter = b >= 'a' && b <= 'z';
                boolean isDigit = b >= '0' && b <= '9';
                if (!isLetter && (!isDigit || i == from)) {
                    return;
                }
                letters = letters << 8 | b;
            }
            for (int i = 0; i <= NEW; i++) {
                if (TONGUE[i] == letters) {
                    code = i;
                    return;
                }
            }
            name = letters;
        }

        private static int slotOf(long letters) {
            return (int) (letters * 0x9e3779b97f4a7c15L >>> 40) & HEADS - 1;
        }

        private int nodeOf(long letters) {
            int at = head[slotOf(letters)];
            for (int i = 0; i < NAMES && at >= 0; i++) {
                if (names[at] == letters) {
                    return named[at];
                }
                at = next[at];
            }
            return -1;
        }

        /** A definition takes four bytes at least, so that there is room for all names. */
        private void keepName(long letters, int n) {
            if (nameCount < NAMES) {
                int slot = slotOf(letters);
                names[nameCount] = letters;
                named[nameCount] = n;
                next[nameCount] = head[slot];
                head[slot] = nameCount;
                nameCount++;
            }
        }

        /** The node of the E that comes now, or REFUSED. */
        private int readExpression() {
            depth = 0;
            int n = UNFINISHED;
            for (int turn = 0; turn < TEXT && n == UNFINISHED; turn++) {
                n = begin();
                if (n >= 0) {
                    n = finish(n);
                }
            }
            return n;
        }

        /** Each word pushes once at most, so that there is room for all. */
        private int await(int item) {
            if (depth < TEXT) {
                stack[depth] = item;
                depth++;
            }
            return UNFINISHED;
        }

        /** The node that the next word completes, UNFINISHED when an E is wanted behind it, or REFUSED. */
        private int begin() {
            nextWord();
            int where = from;
            int told = code;
            if (kind == OPEN) {
                return await(BRACKET);
            }
            if (told == NEW) {
                nextWord();
                int old = readName();
                return old < 0 ? old : renew(old, where);
            }
            if (told < 0) {
                return readName();
            }
            if (program.count >= MADE) {
                return refuse(3, from);
            }
            int n = program.add(told);
            if (told <= DROP) {
                return await(n);
            }
            if (told >= WITNESS) {
                nextWord();
                return readOperand(n, told);
            }
            return n;
        }

        private int readName() {
            if (name == 0) {
                return refuse(1, from);
            }
            int n = nodeOf(name);
            return n < 0 ? refuse(2, from) : n;
        }

        private int readOperand(int n, int told) {
            boolean good = kind == PLAIN;
            if (good && told == WITNESS) {
                good = readRow(n);
            } else if (good && told == HIDDEN) {
                good = readHidden(n);
            } else if (good) {
                good = readJet(n);
            }
            return good ? n : refuse(1, from);
        }

        private boolean readRow(int n) {
            program.detail[n] = from;
            program.span[n] = to - from;
            if (to - from == 1 && text.at(from) == '-') {
                program.span[n] = 0;
                return true;
            }
            for (int i = from; i < to; i++) {
                if (text.at(i) != '0' && text.at(i) != '1') {
                    return false;
                }
            }
            return true;
        }

        private boolean readHidden(int n) {
            if (to - from != 64) {
                return false;
            }
            int words = program.addHidden();
            program.detail[n] = words;
            for (int i = 0; i < 64; i++) {
                int four = Row.digit(text.at(from + i));
                if (four < 0) {
                    return false;
                }
                int w = words + (i >> 3);
                program.hidden[w] = program.hidden[w] << 4 | four;
            }
            return true;
        }

        private boolean readJet(int n) {
            int number = 0;
            for (int i = from; i < to; i++) {
                int b = text.at(i);
                if (b < '0' || b > '9' || i >= from + 3) {
                    return false;
                }
                number = 10 * number + b - '0';
            }
            program.detail[n] = number;
            return number < JET_COUNT;
        }

        /** Copies all that the name's node comes to, or nothing of it. */
        private int renew(int old, int where) {
            order.walk(program, old);
            if (program.count + order.size > MADE) {
                return refuse(3, where);
            }
            int base = program.count;
            for (int i = 0; i < order.size; i++) {
                int n = order.list[i];
                int s = program.first[n];
                int t = program.second[n];
                program.addCopy(n, s < 0 ? -1 : base + order.spot[s], t < 0 ? -1 : base + order.spot[t]);
            }
            return program.count - 1;
        }

        /** Gives the node to what waits for it, and so on with each that is complete then. */
        private int finish(int node) {
            int n = node;
            for (int turn = 0; turn < TEXT && depth > 0; turn++) {
                int holder = stack[depth - 1];
                if (holder == BRACKET) {
                    nextWord();
                    if (kind != CLOSE) {
                        return refuse(1, from);
                    }
                } else if (program.first[holder] >= 0) {
                    program.second[holder] = n;
                    n = holder;
                } else {
                    program.first[holder] = n;
                    if (program.code[holder] <= PAIR) {
                        return UNFINISHED;
                    }
                    n = holder;
                }
                depth--;
            }
            return n;
        }

        /** The errors 10 and 11. */
        private int judgeRows(Row scratch) {
            for (int i = 0; i < order.size; i++) {
                int n = order.list[i];
                if (program.code[n] == WITNESS && program.span[n] != program.targetWidth(n)) {
                    return 10;
                }
            }
            for (int i = 0; i < order.size; i++) {
                int n = order.list[i];
                if (program.code[n] == WITNESS) {
                    scratch.clear();
                    writeRow(n, scratch);
                    if (!program.types.fits(scratch, 0, program.target[n])) {
                        return 11;
                    }
                }
            }
            return 0;
        }

        private void writeRow(int n, Row pen) {
            for (int i = 0; i < program.span[n] && !pen.over; i++) {
                pen.putBit(text.at(program.detail[n] + i) - '0');
            }
        }

        private void writeProgram(Row pen) {
            int bits = 0;
            pen.putNatural(order.size);
            for (int i = 0; i < order.size && !pen.over; i++) {
                int n = order.list[i];
                writeNode(n, pen);
                if (program.code[n] == WITNESS) {
                    bits += program.span[n];
                }
            }
            pen.putNatural(bits + 1);
            for (int i = 0; i < order.size && !pen.over; i++) {
                int n = order.list[i];
                if (program.code[n] == WITNESS) {
                    writeRow(n, pen);
                }
            }
        }

        private void writeNode(int n, Row pen) {
            pen.putBits(program.code[n], 5);
            if (program.first[n] >= 0) {
                pen.putNatural(order.spot[n] - order.spot[program.first[n]]);
            }
            if (program.second[n] >= 0) {
                pen.putNatural(order.spot[n] - order.spot[program.second[n]]);
            }
            if (program.code[n] == JET) {
                pen.putBits(program.detail[n], 8);
            }
            for (int i = 0; i < 8 && program.code[n] == HIDDEN; i++) {
                pen.putBits(program.hidden[program.detail[n] + i], 32);
            }
        }
    }

    /** The jets as plain arithmetic. */
    private static final class Jets {
        static final int ONE = 0;
        static final int BIT = 1;
        static final int HALF = 2;
        static final int WORD = 3;
        static final int TWO_WORDS = 4;
        static final int FOUR_WORDS = 5;
        static final int EIGHT_BITS = 6;
        static final int CARRY_WORD = 7;
        static final int CARRY_WORDS = 8;
        static final int THREE_WORDS = 9;
        static final int BYTE_WORD = 10;

        static final int[] SOURCE = {
            TWO_WORDS, CARRY_WORDS, TWO_WORDS, CARRY_WORDS, WORD, WORD, WORD, TWO_WORDS, FOUR_WORDS, TWO_WORDS,
            TWO_WORDS, TWO_WORDS, TWO_WORDS, TWO_WORDS, TWO_WORDS, TWO_WORDS, TWO_WORDS, TWO_WORDS, THREE_WORDS, WORD,
            WORD, WORD, WORD, WORD, TWO_WORDS, TWO_WORDS, TWO_WORDS, THREE_WORDS, THREE_WORDS, THREE_WORDS,
            ONE, ONE, BYTE_WORD, BYTE_WORD, BYTE_WORD, BYTE_WORD, WORD, WORD, WORD, WORD,
            HALF, HALF
        };
        static final int[] TARGET = {
            CARRY_WORD, CARRY_WORD, CARRY_WORD, CARRY_WORD, CARRY_WORD, CARRY_WORD, CARRY_WORD, TWO_WORDS, TWO_WORDS, WORD,
            WORD, BIT, BIT, BIT, BIT, BIT, WORD, WORD, WORD, BIT,
            BIT, BIT, BIT, WORD, WORD, WORD, WORD, WORD, WORD, WORD,
            WORD, WORD, WORD, WORD, WORD, WORD, EIGHT_BITS, EIGHT_BITS, HALF, HALF,
            WORD, WORD
        };

        private static final long SIGN = 1L << 63;

        private int w;
        private long ones;
        /** What stands ahead of the words: a bit that is carried, or how far to move. */
        private int lead;
        private long x;
        private long y;
        private long z;
        private long v;
        private long bit;
        private long high;
        private long low;

        void perform(int number, Machine machine, int from, int to) {
            int k = number >> 2;
            w = 8 << (number & 3);
            ones = -1L >>> 64 - w;
            readWords(SOURCE[k], machine, from);
            bit = 0;
            high = 0;
            low = 0;
            if (k < 7) {
                reckon(k);
            } else if (k < 9) {
                multiply();
            } else if (k < 12) {
                divide(k);
            } else if (k < 19) {
                compareWords(k);
            } else if (k < 23) {
                testWord(k);
            } else if (k < 32) {
                mixBits(k);
            } else {
                moveBits(k);
            }
            giveWords(TARGET[k], machine, to);
        }

        private void readWords(int shape, Machine machine, int from) {
            int at = from;
            lead = 0;
            if (shape == CARRY_WORDS) {
                lead = (int) machine.get(at, 1);
                at++;
            } else if (shape == BYTE_WORD) {
                lead = (int) machine.get(at, 8);
                at += 8;
            }
            int wide = shape == HALF ? w / 2 : w;
            x = shape == ONE ? 0 : machine.get(at, wide);
            y = 0;
            z = 0;
            v = 0;
            if (shape == TWO_WORDS || shape == CARRY_WORDS || shape == THREE_WORDS || shape == FOUR_WORDS) {
                y = machine.get(at + w, w);
            }
            if (shape == THREE_WORDS || shape == FOUR_WORDS) {
                z = machine.get(at + 2 * w, w);
            }
            if (shape == FOUR_WORDS) {
                v = machine.get(at + 3 * w, w);
            }
        }

        private void giveWords(int shape, Machine machine, int to) {
            switch (shape) {
                case BIT:
                    machine.put(to, 1, bit);
                    break;
                case HALF:
                    machine.put(to, w / 2, low);
                    break;
                case EIGHT_BITS:
                    machine.put(to, 8, low);
                    break;
                case CARRY_WORD:
                    machine.put(to, 1, bit);
                    machine.put(to + 1, w, low);
                    break;
                case TWO_WORDS:
                    machine.put(to, w, high);
                    machine.put(to + w, w, low);
                    break;
                default:
                    machine.put(to, w, low);
                    break;
            }
        }

        private void reckon(int k) {
            switch (k) {
                case 0:
                case 1:
                    addWords(x, y, lead);
                    break;
                case 2:
                case 3:
                    subtract(x, y, lead);
                    break;
                case 4:
                    addWords(x, 0, 1);
                    break;
                case 5:
                    subtract(x, 0, 1);
                    break;
                default:
                    subtract(0, x, 0);
                    break;
            }
        }

        private void addWords(long a, long b, int carried) {
            long sum = a + b + carried;
            low = sum & ones;
            bit = (a & b | (a | b) & ~sum) >>> w - 1 & 1;
        }

        private void subtract(long a, long b, int borrowed) {
            long rest = a - b - borrowed;
            low = rest & ones;
            bit = (~a & b | (~a | b) & rest) >>> w - 1 & 1;
        }

        private void divide(int k) {
            long dividend = k == 11 ? y : x;
            long divisor = k == 11 ? x : y;
            long times = divisor == 0 ? 0 : quotient(dividend, divisor);
            long rest = dividend - times * divisor;
            low = k == 9 ? times : rest;
            bit = rest == 0 ? 1 : 0;
        }

        /** Halves of 32 bits, so that no product and no sum of these leaves a long. */
        private void multiply() {
            long half = 0xffffffffL;
            long least = (x & half) * (y & half);
            long left = (x >>> 32) * (y & half) + (least >>> 32);
            long right = (x & half) * (y >>> 32) + (left & half);
            low = right << 32 | least & half;
            high = (x >>> 32) * (y >>> 32) + (left >>> 32) + (right >>> 32);
            addLow(z);
            addLow(v);
            if (w < 64) {
                high = low >>> w & ones;
                low &= ones;
            }
        }

        private void addLow(long more) {
            low += more;
            if (isBelow(low, more)) {
                high++;
            }
        }

        private static boolean isBelow(long a, long b) {
            return (a ^ SIGN) < (b ^ SIGN);
        }

        private static long quotient(long a, long b) {
            if (b < 0) {
                return isBelow(a, b) ? 0 : 1;
            }
            if (b == 0) {
                return 0;
            }
            long times = (a >>> 1) / b << 1;
            return isBelow(a - times * b, b) ? times : times + 1;
        }

        private void compareWords(int k) {
            boolean below = isBelow(x, y);
            boolean holds = false;
            switch (k) {
                case 12:
                    holds = x == y;
                    break;
                case 13:
                    holds = below;
                    break;
                case 14:
                    holds = !isBelow(y, x);
                    break;
                case 15:
                    holds = x << 64 - w < y << 64 - w;
                    break;
                case 16:
                    low = below ? x : y;
                    break;
                case 17:
                    low = below ? y : x;
                    break;
                default:
                    low = middle(below ? x : y, below ? y : x, z);
                    break;
            }
            bit = holds ? 1 : 0;
        }

        private static long middle(long lesser, long greater, long other) {
            if (isBelow(other, lesser)) {
                return lesser;
            }
            return isBelow(greater, other) ? greater : other;
        }

        private void testWord(int k) {
            boolean holds;
            switch (k) {
                case 19:
                    holds = x == 0;
                    break;
                case 20:
                    holds = x == 1;
                    break;
                case 21:
                    holds = x == ones;
                    break;
                default:
                    holds = x != 0;
                    break;
            }
            bit = holds ? 1 : 0;
        }

        private void mixBits(int k) {
            switch (k) {
                case 23:
                    low = ~x & ones;
                    break;
                case 24:
                    low = x & y;
                    break;
                case 25:
                    low = x | y;
                    break;
                case 26:
                    low = x ^ y;
                    break;
                case 27:
                    low = x ^ y ^ z;
                    break;
                case 28:
                    low = x & y | x & z | y & z;
                    break;
                case 29:
                    low = x & y | ~x & z;
                    break;
                case 30:
                    low = 0;
                    break;
                default:
                    low = ones;
                    break;
            }
        }

        private void moveBits(int k) {
            int n = lead & w - 1;
            switch (k) {
                case 32:
                    low = lead >= w ? 0 : x << lead & ones;
                    break;
                case 33:
                    low = lead >= w ? 0 : x >>> lead;
                    break;
                case 34:
                    low = n == 0 ? x : (x << n | x >>> w - n) & ones;
                    break;
                case 35:
                    low = n == 0 ? x : (x >>> n | x << w - n) & ones;
                    break;
                case 36:
                    low = Long.bitCount(x);
                    break;
                case 37:
                    low = zerosAhead();
                    break;
                case 38:
                    low = x >>> w / 2;
                    break;
                case 39:
                    low = x & ones >>> w / 2;
                    break;
                case 40:
                    low = x;
                    break;
                default:
                    low = x << w / 2;
                    break;
            }
        }

        private int zerosAhead() {
            for (int i = 0; i < w; i++) {
                if ((x >>> w - 1 - i & 1) != 0) {
                    return i;
                }
            }
            return w;
        }
    }

    /** What the machine works: the loaded program's nodes, and behind them the jets' definitions. */
    private static final class Code {
        static final int ROOM = 8000;
        private static final int LEVELS = 7;
        private static final int ADD = 0;
        private static final int SUBTRACT = 1;
        private static final int RAISE = 2;
        private static final int MULTIPLY = 3;
        private static final int SOME = 4;
        private static final int ALL = 5;
        private static final int NOT = 6;
        private static final int AND = 7;
        private static final int OR = 8;
        private static final int XOR = 9;
        private static final int XOR_ALL = 10;
        private static final int MAJORITY = 11;
        private static final int CHOICE = 12;
        private static final int ZEROS = 13;
        private static final int ONES = 14;
        private static final int FLIP = 15;
        private static final int COUNT = 16;
        private static final int AHEAD = 17;
        private static final int TOP = 18;
        private static final int NEXT = 19;
        /** From here on pieces are made of others, not of themselves. */
        private static final int LONGER = 20;
        private static final int STEP = 21;
        private static final int DIVIDE = 22;
        private static final int SAME = 23;
        private static final int BELOW = 24;
        private static final int LESSER = 25;
        private static final int GREATER = 26;
        private static final int PIECES = 27;

        final int[] op = new int[ROOM];
        final int[] one = new int[ROOM];
        final int[] two = new int[ROOM];
        /** What the node's types set: bits to be skipped, or to be given; of a JET its number. */
        final int[] skip = new int[ROOM];
        /** What CASE skips for its second child, and IDEN ahead; a WITNESS's bits, a JET's steps. */
        final int[] other = new int[ROOM];
        /** Where each jet's definition begins, 0 without one. */
        final int[] definition = new int[JET_COUNT];
        private final int[] source = new int[ROOM];
        private final int[] target = new int[ROOM];
        private final int[] pieces = new int[PIECES * LEVELS];
        private int count = NODES;

        void place(int n, int kind, int s, int t, int skipped, int otherwise) {
            op[n] = kind;
            one[n] = s;
            two[n] = t;
            skip[n] = skipped;
            other[n] = otherwise;
        }

        /** There is room for the definitions of all jets together. */
        private int add(int kind, int s, int t, int skipped, int otherwise, int wide, int given) {
            int n = count < ROOM ? count : ROOM - 1;
            count = n + 1;
            op[n] = kind;
            one[n] = s;
            two[n] = t;
            skip[n] = skipped;
            other[n] = otherwise;
            source[n] = wide;
            target[n] = given;
            return n;
        }

        /*
         * The machine sees rows of bits alone. So what only names a part of a row, or puts neighbours
         * together as they are, is no work, and nodes that do no more than that are left out here.
         */

        private int iden(int wide) {
            return add(IDEN, -1, -1, wide, 0, wide, wide);
        }

        private int unit(int wide) {
            return add(UNIT, -1, -1, 0, 0, wide, 0);
        }

        private int bit(int value, int wide) {
            int nothing = add(UNIT, -1, -1, 0, 0, wide, 0);
            return add(value == 0 ? LEFT : RIGHT, nothing, -1, 0, 0, wide, 1);
        }

        private int comp(int s, int t) {
            if (op[t] == IDEN && skip[t] == target[s]) {
                return s;
            }
            if (op[s] == IDEN) {
                return widened(drop(other[s], t), source[s]);
            }
            if (op[s] == UNIT) {
                return widened(t, source[s]);
            }
            return add(COMP, s, t, target[s], 0, source[s], target[t]);
        }

        private int pair(int s, int t) {
            int given = target[s] + target[t];
            if (op[t] == UNIT) {
                return s;
            }
            if (op[s] == IDEN && op[t] == IDEN && other[t] == other[s] + skip[s]) {
                return add(IDEN, -1, -1, given, other[s], source[s], given);
            }
            if (isZeros(s) && isZeros(t)) {
                return add(LEFT, one[s], -1, given - 1, 0, source[s], given);
            }
            return add(PAIR, s, t, target[s], 0, source[s], given);
        }

        private boolean isZeros(int n) {
            return op[n] == LEFT && op[one[n]] == UNIT;
        }

        private int take(int s, int behind) {
            return add(op[s], one[s], two[s], skip[s], other[s], source[s] + behind, target[s]);
        }

        private int drop(int ahead, int s) {
            int wide = ahead + source[s];
            if (ahead == 0) {
                return s;
            }
            if (op[s] == IDEN) {
                return add(IDEN, -1, -1, skip[s], ahead + other[s], wide, target[s]);
            }
            if (op[s] == DROP) {
                return add(DROP, one[s], -1, ahead + skip[s], 0, wide, target[s]);
            }
            return add(DROP, s, -1, ahead, 0, wide, target[s]);
        }

        /** The same of a longer row, whose end is not looked at. */
        private int widened(int n, int wide) {
            return source[n] == wide ? n : add(op[n], one[n], two[n], skip[n], other[n], wide, target[n]);
        }

        /** By a bit that stands ahead: CASE's children get a ONE ahead, which they drop. */
        private int choose(int whenZero, int whenOne) {
            int s = drop(0, whenZero);
            int t = drop(0, whenOne);
            return add(CASE, s, t, 1, 1, 1 + source[s], target[s]);
        }

        /** TAKE IDEN. */
        private int first(int wide, int behind) {
            return add(IDEN, -1, -1, wide, 0, wide + behind, wide);
        }

        /** DROP IDEN. */
        private int second(int ahead, int wide) {
            return add(IDEN, -1, -1, wide, ahead, ahead + wide, wide);
        }

        void define(int number) {
            if (number < 0 || number >= JET_COUNT || definition[number] != 0) {
                return;
            }
            int k = number >> 2;
            int level = 3 + (number & 3);
            if (k < 9) {
                definition[number] = reckoning(k, level);
            } else if (k < 19) {
                definition[number] = comparing(k, level);
            } else if (k < 32) {
                definition[number] = testing(k, level);
            } else if (k < 36) {
                definition[number] = barrel(k, level);
            } else {
                definition[number] = moving(k, level);
            }
        }

        private int reckoning(int k, int level) {
            int w = 1 << level;
            switch (k) {
                case 0:
                    return comp(pair(bit(0, 2 * w), iden(2 * w)), piece(ADD, level));
                case 1:
                    return piece(ADD, level);
                case 2:
                    return comp(pair(bit(0, 2 * w), iden(2 * w)), piece(SUBTRACT, level));
                case 3:
                    return piece(SUBTRACT, level);
                case 4:
                    return comp(pair(bit(1, w), pair(iden(w), zeros(level, w))), piece(ADD, level));
                case 5:
                    return comp(pair(bit(1, w), pair(iden(w), zeros(level, w))), piece(SUBTRACT, level));
                case 6:
                    return comp(pair(bit(0, w), pair(zeros(level, w), iden(w))), piece(SUBTRACT, level));
                case 7:
                    return comp(pair(iden(2 * w), pair(zeros(level, 2 * w), zeros(level, 2 * w))),
                            piece(MULTIPLY, level));
                default:
                    return piece(MULTIPLY, level);
            }
        }

        private int comparing(int k, int level) {
            int w = 1 << level;
            int swapped = pair(second(w, w), first(w, w));
            switch (k) {
                case 9:
                    int quotient = comp(piece(DIVIDE, level), first(w, w));
                    return comp(pair(drop(w, piece(SOME, level)), iden(2 * w)),
                            choose(zeros(level, 2 * w), quotient));
                case 10:
                    return comp(piece(DIVIDE, level), second(w, w));
                case 11:
                    int rest = comp(piece(DIVIDE, level), second(w, w));
                    return comp(swapped, comp(rest, comp(piece(SOME, level), piece(NOT, 0))));
                case 12:
                    return piece(SAME, level);
                case 13:
                    return piece(BELOW, level);
                case 14:
                    return comp(swapped, comp(piece(BELOW, level), piece(NOT, 0)));
                case 15:
                    int flip = piece(FLIP, level);
                    return comp(pair(take(flip, w), drop(w, flip)), piece(BELOW, level));
                case 16:
                    return piece(LESSER, level);
                case 17:
                    return piece(GREATER, level);
                default:
                    return middle(piece(LESSER, level), piece(GREATER, level), w);
            }
        }

        private int testing(int k, int level) {
            int w = 1 << level;
            switch (k) {
                case 19:
                    return comp(piece(SOME, level), piece(NOT, 0));
                case 20:
                    int last = bit(1, w);
                    for (int l = 0; l < level; l++) {
                        last = pair(zeros(l, w), last);
                    }
                    return comp(pair(iden(w), last), piece(SAME, level));
                case 21:
                    return piece(ALL, level);
                case 22:
                    return piece(SOME, level);
                case 23:
                    return piece(NOT, level);
                case 24:
                    return piece(AND, level);
                case 25:
                    return piece(OR, level);
                case 26:
                    return piece(XOR, level);
                case 27:
                    return piece(XOR_ALL, level);
                case 28:
                    return piece(MAJORITY, level);
                case 29:
                    return piece(CHOICE, level);
                case 30:
                    return piece(ZEROS, level);
                default:
                    return piece(ONES, level);
            }
        }

        private int moving(int k, int level) {
            int w = 1 << level;
            switch (k) {
                case 36:
                    return piece(COUNT, level);
                case 37:
                    return piece(AHEAD, level);
                case 38:
                    return first(w / 2, w / 2);
                case 39:
                    return second(w / 2, w / 2);
                case 40:
                    return pair(zeros(level - 1, w / 2), iden(w / 2));
                default:
                    return pair(iden(w / 2), zeros(level - 1, w / 2));
            }
        }

        /** Made once for each size, since greater sizes use the lesser ones again and again. */
        private int piece(int what, int level) {
            int slot = what * LEVELS + level;
            if (level < 0 || level >= LEVELS) {
                return NODES;
            }
            if (pieces[slot] != 0) {
                return pieces[slot];
            }
            if (what >= LONGER) {
                pieces[slot] = joinedPiece(what, level, 1 << level);
            } else {
                pieces[slot] = level == 0 ? leafPiece(what) : greaterPiece(what, level);
            }
            return pieces[slot];
        }

        private int joinedPiece(int what, int level, int w) {
            switch (what) {
                case LONGER:
                    int twice = pair(second(1, w), piece(RAISE, level));
                    return pair(drop(1, piece(TOP, level)), comp(twice, piece(NEXT, level)));
                case STEP:
                    return divisionStep(level, w);
                case DIVIDE:
                    return division(level, w);
                case SAME:
                    return comp(piece(XOR, level), comp(piece(SOME, level), piece(NOT, 0)));
                case BELOW:
                    return comp(pair(bit(0, 2 * w), iden(2 * w)), comp(piece(SUBTRACT, level), first(1, w)));
                case LESSER:
                    return comp(pair(piece(BELOW, level), iden(2 * w)), choose(second(w, w), first(w, w)));
                default:
                    return comp(pair(piece(BELOW, level), iden(2 * w)), choose(first(w, w), second(w, w)));
            }
        }

        private int leafPiece(int what) {
            switch (what) {
                case ADD:
                    return choose(choose(pair(bit(0, 1), iden(1)), pair(iden(1), piece(NOT, 0))),
                            choose(pair(iden(1), piece(NOT, 0)), pair(bit(1, 1), iden(1))));
                case SUBTRACT:
                    return choose(choose(pair(iden(1), iden(1)), pair(bit(0, 1), piece(NOT, 0))),
                            choose(pair(bit(1, 1), piece(NOT, 0)), pair(iden(1), iden(1))));
                case RAISE:
                    return first(1, 1);
                case NEXT:
                    return second(1, 1);
                case MULTIPLY:
                    return comp(pair(take(piece(AND, 0), 2), second(2, 2)), piece(ADD, 0));
                case AND:
                    return choose(bit(0, 1), iden(1));
                case OR:
                    return choose(iden(1), bit(1, 1));
                case XOR:
                    return choose(iden(1), piece(NOT, 0));
                case XOR_ALL:
                    return choose(piece(XOR, 0), choose(piece(NOT, 0), iden(1)));
                case MAJORITY:
                    return choose(piece(AND, 0), piece(OR, 0));
                case CHOICE:
                    return choose(second(1, 1), first(1, 1));
                case ZEROS:
                    return bit(0, 0);
                case ONES:
                    return bit(1, 0);
                case COUNT:
                    return extended();
                case AHEAD:
                    return comp(piece(NOT, 0), extended());
                case NOT:
                case FLIP:
                    return comp(pair(iden(1), unit(1)), choose(bit(1, 0), bit(0, 0)));
                default:
                    return iden(1);
            }
        }

        private int greaterPiece(int what, int level) {
            int h = 1 << level - 1;
            int part = piece(what, level - 1);
            switch (what) {
                case ADD:
                case SUBTRACT:
                    return ripple(part, h);
                case RAISE:
                    int ahead = comp(pair(first(1, 2 * h), drop(1, first(h, h))), part);
                    return pair(ahead, drop(1, second(h, h)));
                case TOP:
                    return take(part, h);
                case NEXT:
                    return pair(take(part, 2 * h), comp(middleHalves(h), part));
                case MULTIPLY:
                    return product(part, h);
                case SOME:
                    return comp(pair(take(part, h), second(h, h)), choose(part, bit(1, h)));
                case ALL:
                    return comp(pair(take(part, h), second(h, h)), choose(bit(0, h), part));
                case NOT:
                    return pair(take(part, h), drop(h, part));
                case AND:
                case OR:
                case XOR:
                    return byHalves(part, 2, h);
                case XOR_ALL:
                case MAJORITY:
                case CHOICE:
                    return byHalves(part, 3, h);
                case ZEROS:
                case ONES:
                    return pair(part, part);
                case FLIP:
                    return pair(take(part, h), second(h, h));
                case COUNT:
                    return comp(pair(bit(0, 2 * h), pair(take(part, h), drop(h, part))), addedBytes());
                default:
                    return zerosAhead(part, level, h);
            }
        }

        /** A UNIT and then the word: what UNIT gives is no bits, so that it can be left out. */
        private int zeros(int level, int wide) {
            return widened(piece(ZEROS, level), wide);
        }

        /** The higher or the lower halves of words of 2 h bits: of x, of (x, y), of (x, (y, z)). */
        private int halves(int words, int h, boolean lower) {
            int half = lower ? second(h, h) : first(h, h);
            int all = half;
            for (int i = 1; i < words; i++) {
                all = pair(take(half, 2 * h * i), drop(2 * h, all));
            }
            return all;
        }

        private int byHalves(int part, int words, int h) {
            return pair(comp(halves(words, h, false), part), comp(halves(words, h, true), part));
        }

        /** (c, (x, y)) to (c, word): the lower halves ahead; what they carry goes to the higher ones. */
        private int ripple(int part, int h) {
            int lower = comp(pair(first(1, 4 * h), drop(1, halves(2, h, true))), part);
            int begun = pair(lower, drop(1, halves(2, h, false)));
            int higher = comp(pair(take(first(1, h), 2 * h), second(1 + h, 2 * h)), part);
            int done = pair(higher, take(second(1, h), 2 * h));
            int told = pair(take(first(1, h), h), pair(take(second(1, h), h), second(1 + h, h)));
            return comp(begun, comp(done, told));
        }

        /** One of x, y, z, v in ((x, y), (z, v)), words of 2 h bits: its higher or lower half. */
        private int quarter(int which, boolean lower, int h) {
            int half = lower ? second(h, h) : first(h, h);
            int inner = (which & 1) == 0 ? take(half, 2 * h) : drop(2 * h, half);
            return which < 2 ? take(inner, 4 * h) : drop(4 * h, inner);
        }

        /** x y + z + v by halves: four lesser ones, each given what those ahead of it left over. */
        private int product(int part, int h) {
            int a = comp(pair(pair(quarter(0, true, h), quarter(1, true, h)),
                    pair(quarter(2, true, h), quarter(3, true, h))), part);
            int withA = pair(a, iden(8 * h));
            int b = comp(pair(drop(2 * h, pair(quarter(0, false, h), quarter(1, true, h))),
                    pair(drop(2 * h, quarter(2, false, h)), take(first(h, h), 8 * h))), part);
            int withB = pair(b, iden(10 * h));
            int c = comp(pair(drop(4 * h, pair(quarter(0, true, h), quarter(1, false, h))),
                    pair(drop(4 * h, quarter(3, false, h)), take(second(h, h), 10 * h))), part);
            int withC = pair(c, iden(12 * h));
            int d = comp(pair(drop(6 * h, pair(quarter(0, false, h), quarter(1, false, h))),
                    pair(drop(2 * h, take(first(h, h), 10 * h)), take(first(h, h), 12 * h))), part);
            int lowest = drop(4 * h, take(second(h, h), 8 * h));
            int told = pair(d, pair(take(second(h, h), 12 * h), lowest));
            return comp(withA, comp(withB, comp(withC, told)));
        }

        /** (x, y) to x divided by y and its rest, a bit of x at a time; by 0 the rest is x. */
        private int division(int level, int w) {
            int part = piece(STEP, level);
            for (int l = 0; l < level; l++) {
                int h = 1 << l;
                int higher = comp(pair(take(first(h, h), 2 * w), second(2 * h, 2 * w)), part);
                int begun = pair(higher, pair(take(second(h, h), 2 * w), drop(2 * h, second(w, w))));
                int lower = comp(pair(drop(h + w, first(h, w)),
                        pair(take(second(h, w), h + w), drop(h + w, second(h, w)))), part);
                int done = pair(take(first(h, w), h + w), lower);
                int told = pair(pair(first(h, h + w), drop(h, first(h, w))), drop(h, second(h, w)));
                part = comp(begun, comp(done, told));
            }
            return comp(pair(first(w, w), pair(zeros(level, 2 * w), second(w, w))), part);
        }

        /** (next bit of x, (rest, y)) to (bit of the quotient, rest). */
        private int divisionStep(int level, int w) {
            int longer = comp(pair(first(1, 2 * w), drop(1, first(w, w))), piece(LONGER, level));
            int begun = pair(longer, drop(1, second(w, w)));
            int less = comp(pair(bit(0, 1 + 2 * w), pair(take(second(1, w), w), second(1 + w, w))),
                    piece(SUBTRACT, level));
            int tried = pair(less, first(1 + w, w));
            int told = pair(take(first(1, w), 1 + w), pair(drop(1 + w, first(1, w)),
                    pair(take(second(1, w), 1 + w), drop(1 + w, second(1, w)))));
            int yes = pair(bit(1, 2 * w), first(w, w));
            int no = pair(bit(0, 2 * w), second(w, w));
            int chosen = choose(drop(1, yes), choose(no, yes));
            return comp(begun, comp(tried, comp(told, chosen)));
        }

        /** Of (x, (y, z)): the greater one of the lesser of y and z, and of the lesser of x and the other. */
        private int middle(int lesser, int greater, int w) {
            int sorted = pair(drop(w, lesser), pair(first(w, 2 * w), drop(w, greater)));
            return comp(sorted, comp(pair(first(w, 2 * w), drop(w, lesser)), greater));
        }

        /** A bit with seven 0s ahead. */
        private int extended() {
            int all = iden(1);
            for (int level = 0; level < 3; level++) {
                all = pair(zeros(level, 1), all);
            }
            return all;
        }

        /** (c, (x, y)) of eight bits to the sum alone. */
        private int addedBytes() {
            return comp(piece(ADD, 3), second(1, 8));
        }

        private int zerosAhead(int part, int level, int h) {
            int more = comp(pair(bit(0, 8), pair(iden(8), eightBits(h, 8))), addedBytes());
            return comp(pair(take(piece(SOME, level - 1), h), iden(2 * h)),
                    choose(drop(h, comp(part, more)), take(part, h)));
        }

        private int eightBits(int n, int wide) {
            int a = pair(bit(n >> 7 & 1, wide), bit(n >> 6 & 1, wide));
            int b = pair(bit(n >> 5 & 1, wide), bit(n >> 4 & 1, wide));
            int c = pair(bit(n >> 3 & 1, wide), bit(n >> 2 & 1, wide));
            int d = pair(bit(n >> 1 & 1, wide), bit(n & 1, wide));
            return pair(pair(a, b), pair(c, d));
        }

        /** (n, x): for each bit of n that is 1, x is moved by what this bit counts. */
        private int barrel(int k, int level) {
            int w = 1 << level;
            int ahead = k == 33 ? zeros(level, w) : iden(w);
            int behind = k == 32 ? zeros(level, w) : iden(w);
            int all = iden(8 + w);
            for (int j = 0; j < 8; j++) {
                int moved = zeros(level, w);
                if (j < level) {
                    moved = comp(pair(ahead, behind), window(level, j, k == 33 || k == 35));
                }
                if (j < level || k < 34) {
                    int chosen = comp(pair(take(bitOfByte(j), w), second(8, w)), choose(iden(w), moved));
                    all = comp(all, pair(first(8, w), chosen));
                }
            }
            return comp(all, second(8, w));
        }

        private int bitOfByte(int j) {
            int inner = (j & 1) != 0 ? first(1, 1) : second(1, 1);
            inner = (j & 2) != 0 ? take(inner, 2) : drop(2, inner);
            return (j & 4) != 0 ? take(inner, 4) : drop(4, inner);
        }

        /** Of (a, b) as many bits as a has, from 2^j on, or (for the right) from 2^j ahead of b on. */
        private int window(int level, int j, boolean right) {
            int part = middleHalves(1 << j);
            for (int l = j + 1; l < level; l++) {
                int h = 1 << l;
                int across = comp(middleHalves(h), part);
                part = right ? pair(across, drop(2 * h, part)) : pair(take(part, 2 * h), across);
            }
            return part;
        }

        private int middleHalves(int h) {
            return pair(take(second(h, h), 2 * h), drop(2 * h, first(h, h)));
        }
    }

    /** Works a program: values are rows of bits among its cells. */
    private static final class Machine {
        /** Values go 400 frames deep at most; definitions of jets take some thousand cells more. */
        private static final int CELLS = (NODES + 2) * WIDEST + 16384;
        private static final int WAITING = 4 * NODES;
        /** A jet of 64 bits, defined, takes some hundred thousand turns; it counts 65 steps at least. */
        private static final long TURNS = 1L << 40;

        int peakCells;
        int peakFrames;
        private final Code code;
        private final Jets jets = new Jets();
        private final long[] cells = new long[CELLS / 64 + 2];
        private final int[] waitNode = new int[WAITING];
        private final int[] waitFrom = new int[WAITING];
        private final int[] waitTo = new int[WAITING];
        private final int[] waitBase = new int[WAITING];
        private final int[] waitFrames = new int[WAITING];
        private int top;
        private int node;
        private int from;
        private int to;
        private int base;
        private int frames;
        private long spent;

        Machine(Code code) {
            this.code = code;
        }

        int spentSteps() {
            return Program.capped(spent);
        }

        /** Up to 64 bits from a place on, as a number. */
        long get(int at, int n) {
            if (n < 1 || n > 64 || at < 0 || at > CELLS - n) {
                return 0;
            }
            int off = at & 63;
            long bits = cells[at >> 6] << off;
            if (off + n > 64) {
                bits |= cells[(at >> 6) + 1] >>> 64 - off;
            }
            return bits >>> 64 - n;
        }

        void put(int at, int n, long number) {
            if (n < 1 || n > 64 || at < 0 || at > CELLS - n) {
                return;
            }
            int off = at & 63;
            long mask = -1L << 64 - n;
            long bits = number << 64 - n;
            int i = at >> 6;
            cells[i] = cells[i] & ~(mask >>> off) | bits >>> off;
            if (off + n > 64) {
                cells[i + 1] = cells[i + 1] & ~(mask << 64 - off) | bits << 64 - off;
            }
        }

        private void copyCells(int n) {
            for (int i = 0; i < n; i += 64) {
                int some = n - i < 64 ? n - i : 64;
                put(to + i, some, get(from + i, some));
            }
        }

        private void clearCells(int at, int n) {
            for (int i = 0; i < n; i += 64) {
                put(at + i, n - i < 64 ? n - i : 64, 0);
            }
        }

        private void copyWitness(Row bytes, int at, int n) {
            for (int i = 0; i < n; i += 32) {
                int some = n - i < 32 ? n - i : 32;
                long bits = 0;
                for (int k = 0; k < some; k++) {
                    bits = bits << 1 | bytes.bit(at + i + k);
                }
                put(to + i, some, bits);
            }
        }

        void give(Row pen, int at, int n) {
            for (int i = 0; i < n; i += 32) {
                int some = n - i < 32 ? n - i : 32;
                pen.putBits(get(at + i, some), some);
            }
        }

        /** Whether the program gives a value of the tape's; it then lies behind the source. */
        boolean works(Program p, Row tape, boolean defined) {
            int last = p.count - 1;
            for (int i = 0; i < tape.size; i++) {
                put(8 * i, 8, tape.at(i));
            }
            int wide = p.sourceWidth(last);
            top = 0;
            spent = 0;
            peakCells = wide + p.targetWidth(last);
            peakFrames = 2;
            await(last, 0, wide, peakCells, 2);
            for (long turn = 0; turn < TURNS && top > 0; turn++) {
                top--;
                node = waitNode[top];
                from = waitFrom[top];
                to = waitTo[top];
                base = waitBase[top];
                frames = waitFrames[top];
                if (!follow(p.bytes, defined)) {
                    return false;
                }
            }
            return true;
        }

        /** Each node waits for one other at most, so that the room is the depth's. */
        private void await(int n, int at, int goal, int free, int open) {
            if (top < WAITING) {
                waitNode[top] = n;
                waitFrom[top] = at;
                waitTo[top] = goal;
                waitBase[top] = free;
                waitFrames[top] = open;
                top++;
            }
        }

        /** From the node on down to one without children; whether none has failed. */
        private boolean follow(Row bytes, boolean defined) {
            for (int turn = 0; turn < Code.ROOM; turn++) {
                int skip = code.skip[node];
                spent++;
                switch (code.op[node]) {
                    case COMP:
                        openFrame(skip);
                        break;
                    case CASE:
                        boolean isLeft = get(from, 1) == 0;
                        from += isLeft ? skip : code.other[node];
                        node = isLeft ? code.one[node] : code.two[node];
                        break;
                    case PAIR:
                        await(code.two[node], from, to + skip, base, frames);
                        node = code.one[node];
                        break;
                    case LEFT:
                    case RIGHT:
                        put(to, 1, code.op[node] == LEFT ? 0 : 1);
                        clearCells(to + 1, skip);
                        to += 1 + skip;
                        node = code.one[node];
                        break;
                    case TAKE:
                        node = code.one[node];
                        break;
                    case DROP:
                        from += skip;
                        node = code.one[node];
                        break;
                    case JET:
                        if (!defined) {
                            spent += code.other[node];
                            jets.perform(skip, this, from, to);
                            return true;
                        }
                        node = code.definition[skip];
                        break;
                    default:
                        return endAt(bytes, skip);
                }
            }
            return false;
        }

        private void openFrame(int wide) {
            int begin = base;
            base += wide;
            frames++;
            peakCells = Math.max(peakCells, base);
            peakFrames = Math.max(peakFrames, frames);
            await(code.two[node], begin, to, base, frames);
            to = begin;
            node = code.one[node];
        }

        private boolean endAt(Row bytes, int skip) {
            switch (code.op[node]) {
                case IDEN:
                    spent += skip;
                    from += code.other[node];
                    copyCells(skip);
                    return true;
                case WITNESS:
                    spent += code.other[node];
                    copyWitness(bytes, skip, code.other[node]);
                    return true;
                case UNIT:
                    return true;
                default:
                    return false;
            }
        }
    }
}
