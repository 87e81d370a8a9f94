import java.util.NoSuchElementException;

public final class CodePlaces {
    public static final int NONE = -1;

    // The words of all texts; each one's number is its place in WORDS.
    private static final String WORDS = "size row scope type var where plain signed in value reg plus minus times load dup swap set poke go stop clear step leave run or and not there local within bits places number ";
    private static final int SIZE = 0;
    private static final int ROW = 1;
    private static final int SCOPE = 2;
    private static final int TYPE = 3;
    private static final int VAR = 4;
    private static final int WHERE = 5;
    private static final int PLAIN = 6;
    private static final int SIGNED = 7;
    private static final int IN = 8;
    private static final int VALUE = 9;
    private static final int REG = 10;
    private static final int PLUS = 11;
    private static final int MINUS = 12;
    private static final int TIMES = 13;
    private static final int LOAD = 14;
    private static final int DUP = 15;
    private static final int SWAP = 16;
    private static final int SET = 17;
    private static final int POKE = 18;
    private static final int GO = 19;
    private static final int STOP = 20;
    private static final int CLEAR = 21;
    private static final int STEP = 22;
    private static final int LEAVE = 23;
    private static final int RUN = 24;
    private static final int OR = 25;
    private static final int AND = 26;
    private static final int NOT = 27;
    private static final int THERE = 28;
    private static final int LOCAL = 29;
    private static final int WITHIN = 30;
    private static final int BITS = 31;
    private static final int PLACES = 32;
    private static final int NUMBER = 33;

    private static final int MOST_LINE = 250;
    private static final int MOST_WORD = 65535;
    private static final int NO_SUCH_LIVES = -1000;
    private static final int ODDS_DEEDS = 10;

    private final Tokens tokens = new Tokens();
    private final Unit unit = new Unit();
    private final Machine machine = new Machine();
    private final Machine trial = new Machine();
    private final Machine[] history = new Machine[8];
    private int undoable = 0;
    private final Finder finder = new Finder();
    private final Draws draws = new Draws();
    private final Sentence sentence = new Sentence();
    private final UnitReader unitReader = new UnitReader();
    private final SentenceReader sentenceReader = new SentenceReader();
    private final Book book = new Book();
    private final Packer packer = new Packer();
    private final Unit[] keptUnits = new Unit[2];
    private final Machine[] keptMachines = new Machine[2];
    private final Sentence[] keptSentences = new Sentence[2];
    private final boolean[] kept = new boolean[2];
    private final Table chain = new Table(Unit.SCOPES, 2);
    private final Table tag = new Table(40, 1);
    private final Table told = new Table(1, 4);

    public CodePlaces() {
        for (int i = 0; i < history.length; i++) {
            history[i] = new Machine();
        }
        for (int i = 0; i < kept.length; i++) {
            keptUnits[i] = new Unit();
            keptMachines[i] = new Machine();
            keptSentences[i] = new Sentence();
        }
    }

    // ---- the tape and the UNIT ----

    public int feed(int a, int b, int c, int d, int e) {
        if (tokens.length + 20 > Tokens.MOST) {
            return NONE;
        }
        tokens.putInt(a);
        tokens.putInt(b);
        tokens.putInt(c);
        tokens.putInt(d);
        tokens.putInt(e);
        return tokens.length;
    }

    public boolean end(int n) {
        if (n < 0 || n > tokens.length) {
            return false;
        }
        tokens.length = n;
        return true;
    }

    public int unit() {
        int lines = unitReader.readUnit(tokens);
        tokens.length = 0;
        if (tokens.fault != 0) {
            return -1 - tokens.place;
        }
        unit.copyFrom(unitReader.draft);
        machine.makeNew();
        sentence.forget();
        undoable = 0;
        return lines;
    }

    public int fault() {
        return tokens.fault;
    }

    public int row(int k, int what) {
        if (!unit.rows.has(k)) {
            return NONE;
        }
        switch (what) {
            case 0:
                return unit.rows.at(k, Unit.AT);
            case 1:
                return unit.rows.at(k, Unit.LINE);
            case 2:
                return unit.rowLength(k);
            default:
                return NONE;
        }
    }

    public int scope(int s, int what) {
        if (!unit.scopes.has(s)) {
            return NONE;
        }
        switch (what) {
            case 0:
                return unit.scopes.at(s, Unit.FROM);
            case 1:
                return unit.scopes.at(s, Unit.TO);
            case 2:
                return unit.scopes.at(s, Unit.CALL);
            case 3:
                return unit.scopeBehind(unit.scopes.at(s, Unit.FROM), s);
            case 4:
                return unit.varsOf(s);
            default:
                return NONE;
        }
    }

    public int var(int v, int what) {
        if (!unit.vars.has(v)) {
            return NONE;
        }
        int type = unit.vars.at(v, Unit.KIND);
        switch (what) {
            case 0:
                return unit.vars.at(v, Unit.HOME);
            case 1:
                return type;
            case 2:
                return unit.placesOf(v);
            case 3:
                return unit.types.at(type, Unit.FIRST);
            case 4:
                return unit.types.at(type, Unit.MANY);
            case 5:
                return unit.types.at(type, Unit.SIGN);
            default:
                return NONE;
        }
    }

    public int placeOf(int v, int a) {
        return unit.placeAt(v, a);
    }

    public int lineAt(int a) {
        return unit.lineOf(a);
    }

    public int addressOf(int line, int k) {
        int left = k;
        for (int i = 0; i < unit.rows.count && left >= 0; i++) {
            if (unit.rows.at(i, Unit.LINE) == line) {
                if (left == 0) {
                    return unit.rows.at(i, Unit.AT);
                }
                left--;
            }
        }
        return NONE;
    }

    public int chain(int a) {
        if (!unit.hasAddress(a)) {
            return NONE;
        }
        chain.forget();
        int line = unit.lineOf(a);
        int s = unit.scopeBehind(a, NONE);
        for (int i = 0; i < Unit.SCOPES && s != NONE; i++) {
            int k = chain.add(0L);
            chain.put(k, 0, s);
            chain.put(k, 1, line);
            line = unit.scopes.at(s, Unit.CALL);
            s = unit.scopeBehind(a, s);
        }
        return chain.count;
    }

    public int chainAt(int k) {
        return chain.at(k, 0);
    }

    public int chainLine(int k) {
        return chain.at(k, 1);
    }

    // ---- where a VAR is ----

    public int value(int v, int a) throws NoSuchElementException {
        if (!unit.vars.has(v) || finder.look(unit, machine, v, a) != 0) {
            throw new NoSuchElementException("it is not there");
        }
        return finder.found;
    }

    public int why(int v, int a) {
        if (!unit.vars.has(v) || !unit.hasAddress(a)) {
            return NONE;
        }
        return finder.look(unit, machine, v, a);
    }

    // ---- the machine ----

    public int now(int what) {
        switch (what) {
            case 0:
                return machine.address;
            case 1:
                return unit.lineOf(machine.address);
            case 2:
                return machine.stopCount;
            case 3:
                return unit.scopeBehind(machine.address, NONE);
            case 4:
                return finder.varsThere(unit, machine);
            case 5:
                return machine.deeds;
            default:
                return NONE;
        }
    }

    public int register(int k) {
        return machine.registerAt(k);
    }

    public int memory(int a) {
        return machine.memoryAt(a);
    }

    public int set(int k, int n) {
        return isIn(k, 0, Machine.REGISTERS - 1) && isIn(n, 0, MOST_WORD) ? act(SET, k, n) : NONE;
    }

    public int poke(int a, int n) {
        return isIn(a, 0, Machine.PLACES - 1) && isIn(n, 0, MOST_WORD) ? act(POKE, a, n) : NONE;
    }

    public int go(int a) {
        return unit.hasAddress(a) ? act(GO, a, 0) : NONE;
    }

    public int stop(int line) {
        return isIn(line, 1, MOST_LINE) ? act(STOP, line, 0) : NONE;
    }

    public int clear(int line) {
        return isIn(line, 1, MOST_LINE) ? act(CLEAR, line, 0) : NONE;
    }

    public int step() {
        return act(STEP, 0, 0);
    }

    public int leave() {
        return act(LEAVE, 0, 0);
    }

    public int run() {
        return act(RUN, 0, 0);
    }

    public int undo() {
        if (undoable <= 0) {
            return NONE;
        }
        undoable--;
        machine.copyFrom(history[undoable]);
        return undoable;
    }

    private static boolean isIn(int n, int least, int most) {
        return n >= least && n <= most;
    }

    private int act(int deed, int a, int b) {
        trial.copyFrom(machine);
        int why = machine.perform(unit, deed, a, b);
        if (why == 0) {
            remember(trial);
        }
        return why;
    }

    private void remember(Machine before) {
        if (undoable >= history.length) {
            Machine oldest = history[0];
            for (int i = 1; i < history.length; i++) {
                history[i - 1] = history[i];
            }
            history[history.length - 1] = oldest;
            undoable--;
        }
        history[undoable].copyFrom(before);
        undoable++;
    }

    // ---- programs of bytes ----

    public int packed() {
        packer.pack(unit.rows);
        return packer.program.count;
    }

    public int packedAt(int i) {
        return packer.program.at(i, 0);
    }

    public int unpacked() {
        int refused = packer.unpack(tokens);
        tokens.length = 0;
        return refused == NONE ? packer.rows.count : -1 - refused;
    }

    public int unpackedAt(int k, int what) {
        return packer.rows.at(k, what);
    }

    // ---- what is told of lines and VARS ----

    public int cover(int v, int what) throws NoSuchElementException {
        if (!unit.vars.has(v) || (what != 0 && what != 1)) {
            throw new NoSuchElementException("no such ones");
        }
        int above = unit.covered(v);
        int below = unit.scopeLength(unit.vars.at(v, Unit.HOME));
        int common = commonDivisor(above, below);
        int part = what == 0 ? above : below;
        return common > 0 ? part / common : part;
    }

    private static int commonDivisor(int a, int b) {
        int one = a;
        int other = b;
        for (int i = 0; i < 1000 && other > 0; i++) {
            int rest = one % other;
            one = other;
            other = rest;
        }
        return one;
    }

    public int longest() {
        int longest = NONE;
        int most = 0;
        for (int line = 1; line <= MOST_LINE; line++) {
            int many = unit.lineLength(line);
            if (many > most) {
                most = many;
                longest = line;
            }
        }
        return longest;
    }

    public int tag(int v) {
        if (!unit.vars.has(v)) {
            return NONE;
        }
        tag.forget();
        tagName(unit.vars.nameOf(v));
        if (finder.look(unit, machine, v, machine.address) == 0) {
            tagText(" is ");
            tagNumber(finder.found);
        } else {
            tagText(" is out");
        }
        tagText(" in ");
        tagName(unit.scopes.nameOf(unit.vars.at(v, Unit.HOME)));
        return tag.count;
    }

    public int byteAt(int i) {
        return tag.at(i, 0);
    }

    private void tagByte(int n) {
        tag.put(tag.add(0L), 0, n);
    }

    private void tagText(String text) {
        for (int i = 0; i < text.length(); i++) {
            tagByte(text.charAt(i));
        }
    }

    private void tagName(long name) {
        for (int shift = 30; shift >= 0; shift -= 5) {
            int letter = (int) (name >>> shift) & 31;
            if (letter > 0) {
                tagByte(Tokens.BEFORE_A + letter);
            }
        }
    }

    private void tagNumber(int n) {
        int size = n < 0 ? -n : n;
        if (n < 0) {
            tagByte('-');
        }
        for (int ten = 10000; ten >= 1; ten /= 10) {
            if (size >= ten || ten == 1) {
                tagByte('0' + size / ten % 10);
            }
        }
    }

    // ---- draws ----

    public int drawn(int n, int seed) {
        if (!isIn(n, 1, 60)) {
            return NONE;
        }
        trial.copyFrom(machine);
        int done = draws.doDeeds(unit, machine, n, seed);
        if (done > 0) {
            remember(trial);
        }
        return done;
    }

    public int odds(int v, int n, int seed) {
        if (!unit.vars.has(v) || !isIn(n, 1, 30)) {
            return NONE;
        }
        int there = 0;
        for (int i = 0; i < n; i++) {
            trial.copyFrom(machine);
            draws.doDeeds(unit, trial, ODDS_DEEDS, seed + i);
            if (finder.look(unit, trial, v, trial.address) == 0) {
                there++;
            }
        }
        return there;
    }

    // ---- the BOOK and the SENTENCE ----

    public int book(int lives) {
        if (lives != 0 && lives != 1) {
            return NO_SUCH_LIVES;
        }
        book.readLines(tokens);
        tokens.length = 0;
        if (tokens.fault != 0) {
            return -2 - tokens.place;
        }
        trial.copyFrom(machine);
        int why = book.judge(unit, trial);
        tellBook(why);
        if (lives == 1 && book.right > 0) {
            remember(machine);
            machine.copyFrom(trial);
        }
        return why == 0 ? NONE : book.right;
    }

    private void tellBook(int why) {
        told.forget();
        int k = told.add(0L);
        told.put(k, 0, why);
        told.put(k, 1, book.right);
        told.put(k, 2, trial.address);
        told.put(k, 3, finder.varsThere(unit, trial));
    }

    public int told(int what) {
        return told.at(0, what);
    }

    public int sentence() {
        int ones = sentenceReader.readSentence(tokens, unit);
        tokens.length = 0;
        if (tokens.fault != 0) {
            return -1 - tokens.place;
        }
        sentence.copyFrom(sentenceReader.draft);
        return ones;
    }

    public int said(int k) {
        if (sentence.length == 0) {
            return NONE;
        }
        int many = 0;
        for (int v = 0; v < unit.vars.count; v++) {
            if (sentence.isSaidOf(unit, machine, finder, v)) {
                if (many == k) {
                    return v;
                }
                many++;
            }
        }
        return k == NONE ? many : NONE;
    }

    // ---- images ----

    public boolean image(int k) {
        if (!isIn(k, 0, kept.length - 1)) {
            return false;
        }
        keptUnits[k].copyFrom(unit);
        keptMachines[k].copyFrom(machine);
        keptSentences[k].copyFrom(sentence);
        kept[k] = true;
        return true;
    }

    public boolean restore(int k) {
        if (!isIn(k, 0, kept.length - 1) || !kept[k]) {
            return false;
        }
        unit.copyFrom(keptUnits[k]);
        machine.copyFrom(keptMachines[k]);
        sentence.copyFrom(keptSentences[k]);
        undoable = 0;
        return true;
    }

    public int count(int what) {
        switch (what) {
            case 0:
                return unit.size;
            case 1:
                return unit.rows.count;
            case 2:
                return unit.scopes.count;
            case 3:
                return unit.types.count;
            case 4:
                return unit.vars.count;
            case 5:
                return unit.places.count;
            case 6:
                return tokens.length;
            default:
                return NONE;
        }
    }

    /** Rows of numbers, each with a name or without (0); what is not in it is NONE. */
    private static final class Table {
        final int width;
        final long[] names;
        final int[] cells;
        int count = 0;

        Table(int most, int width) {
            this.width = width;
            this.names = new long[most];
            this.cells = new int[most * width];
        }

        void forget() {
            count = 0;
        }

        boolean isFull() {
            return count >= names.length;
        }

        boolean has(int k) {
            return k >= 0 && k < count;
        }

        /** The number of the new row; NONE if there is no room. */
        int add(long name) {
            if (count >= names.length) {
                return NONE;
            }
            names[count] = name;
            count++;
            return count - 1;
        }

        int at(int k, int column) {
            boolean isThere = k >= 0 && k < count && column >= 0 && column < width;
            return isThere ? cells[k * width + column] : NONE;
        }

        void put(int k, int column, int n) {
            if (k >= 0 && k < count && column >= 0 && column < width) {
                cells[k * width + column] = n;
            }
        }

        long nameOf(int k) {
            return k >= 0 && k < count ? names[k] : 0L;
        }

        int find(long name) {
            for (int i = 0; i < count; i++) {
                if (names[i] == name) {
                    return i;
                }
            }
            return NONE;
        }

        /** The other one is as large as this one. */
        void copyFrom(Table other) {
            count = Math.min(other.count, names.length);
            System.arraycopy(other.names, 0, names, 0, Math.min(names.length, other.names.length));
            System.arraycopy(other.cells, 0, cells, 0, Math.min(cells.length, other.cells.length));
        }
    }

    /** The tape, read as TOKENS: the one that is read now, and the FAULT of the latest text. */
    private static final class Tokens {
        static final int MOST = 940;
        static final int BEFORE_A = 96;
        static final int END = 0;
        static final int WORD = 1;
        static final int DIGITS = 2;
        static final int SIGN = 3;
        static final int BAD = 4;

        final int[] bytes = new int[MOST];
        int length = 0;
        int most = 0;
        int next = 0;
        int kind = END;
        int start = 0;
        long name = 0L;
        int word = NONE;
        int number = 0;
        int sign = 0;
        int fault = 0;
        int place = 0;

        void putInt(int n) {
            for (int shift = 24; shift >= 0; shift -= 8) {
                if (length < MOST) {
                    bytes[length] = (n >>> shift) & 255;
                    length++;
                }
            }
        }

        int byteOf(int i) {
            return i >= 0 && i < length ? bytes[i] : NONE;
        }

        /** Reads the first TOKEN of a text of so many bytes at most. */
        void begin(int most) {
            this.most = most;
            fault = 0;
            next = 0;
            advance();
        }

        void advance() {
            for (int i = 0; i < MOST && isBlank(byteOf(next)); i++) {
                next++;
            }
            start = next;
            if (length > most && next >= most) {
                start = most;
                kind = BAD;
            } else if (next >= length) {
                kind = END;
            } else if (goesOn(byteOf(next))) {
                readRun();
            } else {
                sign = byteOf(next);
                kind = isSignByte(sign) ? SIGN : BAD;
                next++;
            }
        }

        private static boolean isBlank(int n) {
            return n == 32 || n == 10;
        }

        private static boolean goesOn(int n) {
            return n >= 'a' && n <= 'z' || n >= '0' && n <= '9';
        }

        private static boolean isSignByte(int n) {
            return n == ';' || n == '<' || n == '=' || n == '>' || n == '(' || n == ')';
        }

        private void readRun() {
            int letters = 0;
            int digits = 0;
            name = 0L;
            number = 0;
            for (int i = 0; i < MOST && goesOn(byteOf(next)); i++) {
                int n = byteOf(next);
                if (n >= 'a') {
                    letters++;
                    name = name * 32 + (n - BEFORE_A);
                } else {
                    digits++;
                    number = number * 10 + (n - '0');
                }
                next++;
            }
            if (digits == 0 && letters <= 7) {
                kind = WORD;
                word = wordOf(name);
            } else {
                kind = letters == 0 && digits <= 3 ? DIGITS : BAD;
            }
        }

        private static int wordOf(long name) {
            long code = 0L;
            int word = 0;
            for (int i = 0; i < WORDS.length(); i++) {
                char c = WORDS.charAt(i);
                if (c != ' ') {
                    code = code * 32 + (c - BEFORE_A);
                } else if (code == name) {
                    return word;
                } else {
                    code = 0L;
                    word++;
                }
            }
            return NONE;
        }

        /** A FAULT at the TOKEN that is read now. */
        boolean fail(int kindOfFault) {
            fault = kindOfFault;
            place = start;
            return false;
        }

        /** The number of the word that is read now; NONE if it is no TOKEN of that kind. */
        int wordHere() {
            return kind == WORD ? word : NONE;
        }

        boolean isSign(char c) {
            return kind == SIGN && sign == c;
        }

        boolean needsNumber(int least, int greatest) {
            if (kind != DIGITS) {
                return fail(1);
            }
            if (number < least || number > greatest) {
                return fail(2);
            }
            return true;
        }

        boolean needsName() {
            if (kind != WORD || word != NONE) {
                return fail(1);
            }
            return true;
        }

        boolean passSign(char c) {
            if (!isSign(c)) {
                return fail(1);
            }
            advance();
            return true;
        }
    }

    /** ROWS (by ADDRESS), SCOPES, TYPES, VARS and 'where' (places). */
    private static final class Unit {
        static final int SCOPES = 10;
        static final int OPS = 8;
        static final int LARGEST = 256;
        // a row
        static final int AT = 0;
        static final int LINE = 1;
        // FROM and TO of a scope and of a place are in the same columns
        static final int FROM = 0;
        static final int TO = 1;
        static final int CALL = 2;
        /** The less this is, the further ahead a scope is in every CHAIN. */
        static final int RANK = 3;
        // a type
        static final int FIRST = 0;
        static final int MANY = 1;
        static final int SIGN = 2;
        // a var
        static final int HOME = 0;
        static final int KIND = 1;
        // a place; its ops are pairs from CODE on
        static final int OWNER = 2;
        static final int DIRECT = 3;
        static final int STEPS = 4;
        static final int CODE = 5;
        /** The OP that is a NUMBER, beside the words of the others. */
        static final int PUSH = 100;

        int size = LARGEST;
        final Table rows = new Table(30, 2);
        final Table scopes = new Table(SCOPES, 4);
        final Table types = new Table(6, 3);
        final Table vars = new Table(10, 2);
        final Table places = new Table(16, CODE + 2 * OPS);

        void makeEmpty() {
            size = LARGEST;
            rows.forget();
            scopes.forget();
            types.forget();
            vars.forget();
            places.forget();
        }

        void copyFrom(Unit other) {
            size = other.size;
            rows.copyFrom(other.rows);
            scopes.copyFrom(other.scopes);
            types.copyFrom(other.types);
            vars.copyFrom(other.vars);
            places.copyFrom(other.places);
        }

        boolean hasAddress(int a) {
            return a >= 0 && a < size;
        }

        boolean isNameTold(long name) {
            return scopes.find(name) != NONE || types.find(name) != NONE || vars.find(name) != NONE;
        }

        void addRow(int a, int line) {
            int k = rows.add(0L);
            for (int i = 0; i < rows.count && k > 0 && rows.at(k - 1, AT) > a; i++) {
                rows.put(k, AT, rows.at(k - 1, AT));
                rows.put(k, LINE, rows.at(k - 1, LINE));
                k--;
            }
            rows.put(k, AT, a);
            rows.put(k, LINE, line);
        }

        /** The row of the greatest ADDRESS that is not above; NONE. */
        int rowOf(int a) {
            int k = NONE;
            for (int i = 0; i < rows.count && rows.at(i, AT) <= a; i++) {
                k = i;
            }
            return k;
        }

        int lineOf(int a) {
            return hasAddress(a) ? rows.at(rowOf(a), LINE) : NONE;
        }

        int rowLength(int k) {
            int to = rows.has(k + 1) ? rows.at(k + 1, AT) : size;
            return to - rows.at(k, AT);
        }

        int lineLength(int line) {
            int many = 0;
            for (int i = 0; i < rows.count; i++) {
                if (rows.at(i, LINE) == line) {
                    many += rowLength(i);
                }
            }
            return many;
        }

        /** TO of a scope that is none is NONE: it has no ADDRESS. */
        boolean scopeHas(int s, int a) {
            return scopes.at(s, FROM) <= a && a < scopes.at(s, TO);
        }

        int scopeLength(int s) {
            return scopes.at(s, TO) - scopes.at(s, FROM);
        }

        /** The SCOPE behind one in the CHAIN of an ADDRESS; of NONE the first of all. */
        int scopeBehind(int a, int ahead) {
            int next = NONE;
            int least = scopes.at(ahead, RANK);
            for (int s = 0; s < scopes.count; s++) {
                int rank = scopes.at(s, RANK);
                boolean isNearer = next == NONE || rank < scopes.at(next, RANK);
                if (scopeHas(s, a) && rank > least && isNearer) {
                    next = s;
                }
            }
            return next;
        }

        /** Fewer ADDRESSES are ahead; of like ones the one told last. */
        void rankScope(int s) {
            int many = scopes.at(s, TO) - scopes.at(s, FROM);
            scopes.put(s, RANK, (many + 1) * SCOPES - s);
        }

        /** Whether a SCOPE is another one or that is behind it in the CHAIN of its FROM. */
        boolean isWithin(int s, int other) {
            int at = s;
            for (int i = 0; i < SCOPES && at != NONE; i++) {
                if (at == other) {
                    return true;
                }
                at = scopeBehind(scopes.at(s, FROM), at);
            }
            return false;
        }

        boolean cutsScope(int from, int to) {
            for (int s = 0; s < scopes.count; s++) {
                int low = scopes.at(s, FROM);
                int high = scopes.at(s, TO);
                boolean apart = to <= low || high <= from;
                boolean inside = low <= from && to <= high || from <= low && high <= to;
                if (!apart && !inside) {
                    return true;
                }
            }
            return false;
        }

        int varsOf(int s) {
            int bits = 0;
            for (int v = 0; v < vars.count; v++) {
                if (vars.at(v, HOME) == s) {
                    bits |= 1 << v;
                }
            }
            return bits;
        }

        int placesOf(int v) {
            int many = 0;
            for (int p = 0; p < places.count; p++) {
                if (places.at(p, OWNER) == v) {
                    many++;
                }
            }
            return many;
        }

        /** The 'where' of a VAR that has an ADDRESS; NONE. */
        int placeAt(int v, int a) {
            for (int p = 0; p < places.count; p++) {
                if (places.at(p, OWNER) == v && places.at(p, FROM) <= a && a < places.at(p, TO)) {
                    return p;
                }
            }
            return NONE;
        }

        /** Whether a 'where' of the VAR may not be there: out of its SCOPE, or over another one. */
        boolean isPlaceTaken(int v, int from, int to) {
            int s = vars.at(v, HOME);
            if (from < scopes.at(s, FROM) || to > scopes.at(s, TO)) {
                return true;
            }
            for (int p = 0; p < places.count; p++) {
                boolean apart = to <= places.at(p, FROM) || places.at(p, TO) <= from;
                if (places.at(p, OWNER) == v && !apart) {
                    return true;
                }
            }
            return false;
        }

        int covered(int v) {
            int many = 0;
            for (int p = 0; p < places.count; p++) {
                if (places.at(p, OWNER) == v) {
                    many += places.at(p, TO) - places.at(p, FROM);
                }
            }
            return many;
        }

        /** The bits of a word that are the VALUE of a VAR. */
        int bitsOf(int v, int word) {
            int type = vars.at(v, KIND);
            int many = types.at(type, MANY);
            int bits = (word >>> types.at(type, FIRST)) & ((1 << many) - 1);
            boolean negative = types.at(type, SIGN) == 1 && ((bits >>> (many - 1)) & 1) == 1;
            return negative ? bits - (1 << many) : bits;
        }

        /** The first row above an ADDRESS to which a STEP from there goes; NONE. */
        int stepTo(int a) {
            int here = rowOf(a);
            int line = rows.at(here, LINE);
            int scope = scopeBehind(a, NONE);
            for (int i = here + 1; i < rows.count; i++) {
                boolean out = scope != NONE && !scopeHas(scope, rows.at(i, AT));
                if (rows.at(i, LINE) != line || out) {
                    return rows.at(i, AT);
                }
            }
            return NONE;
        }
    }

    /** Reads the tape as a UNIT into a draft. */
    private static final class UnitReader {
        static final int MOST_BYTES = 900;

        final Unit draft = new Unit();
        private int lines = 0;
        private int depth = 0;

        /** How many LINES; of no meaning with a FAULT. */
        int readUnit(Tokens tokens) {
            draft.makeEmpty();
            lines = 0;
            tokens.begin(MOST_BYTES);
            for (int i = 0; i < MOST_BYTES && tokens.kind != Tokens.END; i++) {
                boolean isRead;
                switch (tokens.wordHere()) {
                    case SIZE:
                        isRead = readSize(tokens);
                        break;
                    case ROW:
                        isRead = readRow(tokens);
                        break;
                    case SCOPE:
                        isRead = readScope(tokens);
                        break;
                    case TYPE:
                        isRead = readType(tokens);
                        break;
                    case VAR:
                        isRead = readVar(tokens);
                        break;
                    case WHERE:
                        isRead = readPlace(tokens);
                        break;
                    default:
                        isRead = tokens.fail(1);
                        break;
                }
                if (!isRead || !tokens.passSign(';')) {
                    return lines;
                }
                lines++;
            }
            return lines;
        }

        private boolean readSize(Tokens tokens) {
            if (lines > 0) {
                return tokens.fail(3);
            }
            tokens.advance();
            if (!tokens.needsNumber(1, Unit.LARGEST)) {
                return false;
            }
            draft.size = tokens.number;
            tokens.advance();
            return true;
        }

        /** Whether one more LINE of a sort may come: goes on behind its first WORD. */
        private boolean beginSort(Tokens tokens, Table table) {
            if (table.isFull()) {
                return tokens.fail(4);
            }
            tokens.advance();
            return true;
        }

        private boolean readRow(Tokens tokens) {
            if (!beginSort(tokens, draft.rows) || !tokens.needsNumber(0, draft.size - 1)) {
                return false;
            }
            int a = tokens.number;
            if (draft.rows.at(draft.rowOf(a), Unit.AT) == a) {
                return tokens.fail(3);
            }
            tokens.advance();
            if (!tokens.needsNumber(1, MOST_LINE)) {
                return false;
            }
            draft.addRow(a, tokens.number);
            tokens.advance();
            return true;
        }

        private boolean readNewName(Tokens tokens, Table table) {
            if (!tokens.needsName()) {
                return false;
            }
            if (draft.isNameTold(tokens.name)) {
                return tokens.fail(3);
            }
            table.add(tokens.name);
            tokens.advance();
            return true;
        }

        /** The number of a NAME that is told in a table; NONE with a FAULT. */
        private int readToldName(Tokens tokens, Table table) {
            if (!tokens.needsName()) {
                return NONE;
            }
            int k = table.find(tokens.name);
            if (k == NONE) {
                tokens.fail(3);
            } else {
                tokens.advance();
            }
            return k;
        }

        /** FROM, and the TO is read then, but not passed: more FAULTS may be at it. */
        private boolean readRange(Tokens tokens, Table table, int k) {
            if (!tokens.needsNumber(0, draft.size - 1)) {
                return false;
            }
            int from = tokens.number;
            tokens.advance();
            if (!tokens.needsNumber(from + 1, draft.size)) {
                return false;
            }
            table.put(k, Unit.FROM, from);
            table.put(k, Unit.TO, tokens.number);
            return true;
        }

        private boolean readScope(Tokens tokens) {
            int k = draft.scopes.count;
            if (!beginSort(tokens, draft.scopes) || !readNewName(tokens, draft.scopes) || !readRange(tokens, draft.scopes, k)) {
                return false;
            }
            if (draft.cutsScope(draft.scopes.at(k, Unit.FROM), draft.scopes.at(k, Unit.TO))) {
                return tokens.fail(3);
            }
            tokens.advance();
            if (!tokens.needsNumber(0, MOST_LINE)) {
                return false;
            }
            draft.scopes.put(k, Unit.CALL, tokens.number);
            draft.rankScope(k);
            tokens.advance();
            return true;
        }

        private boolean readType(Tokens tokens) {
            int k = draft.types.count;
            if (!beginSort(tokens, draft.types) || !readNewName(tokens, draft.types) || !tokens.needsNumber(0, 15)) {
                return false;
            }
            int first = tokens.number;
            tokens.advance();
            if (!tokens.needsNumber(1, 16 - first)) {
                return false;
            }
            draft.types.put(k, Unit.FIRST, first);
            draft.types.put(k, Unit.MANY, tokens.number);
            tokens.advance();
            int word = tokens.wordHere();
            if (word != PLAIN && word != SIGNED) {
                return tokens.fail(1);
            }
            draft.types.put(k, Unit.SIGN, word == SIGNED ? 1 : 0);
            tokens.advance();
            return true;
        }

        private boolean readVar(Tokens tokens) {
            int k = draft.vars.count;
            if (!beginSort(tokens, draft.vars) || !readNewName(tokens, draft.vars)) {
                return false;
            }
            int scope = readToldName(tokens, draft.scopes);
            if (scope == NONE) {
                return false;
            }
            int type = readToldName(tokens, draft.types);
            draft.vars.put(k, Unit.HOME, scope);
            draft.vars.put(k, Unit.KIND, type);
            return type != NONE;
        }

        private boolean readPlace(Tokens tokens) {
            if (!beginSort(tokens, draft.places)) {
                return false;
            }
            int v = readToldName(tokens, draft.vars);
            if (v == NONE) {
                return false;
            }
            int k = draft.places.add(0L);
            // it is nobody's until its range has been judged, so that it does not stand in its own way
            draft.places.put(k, Unit.OWNER, NONE);
            if (!readRange(tokens, draft.places, k)) {
                return false;
            }
            if (draft.isPlaceTaken(v, draft.places.at(k, Unit.FROM), draft.places.at(k, Unit.TO))) {
                return tokens.fail(3);
            }
            draft.places.put(k, Unit.OWNER, v);
            draft.places.put(k, Unit.STEPS, 0);
            tokens.advance();
            return tokens.wordHere() == IN ? readRegister(tokens, k) : readOps(tokens, k);
        }

        /** The word is the register: the same as its 'reg' with 'value'. */
        private boolean readRegister(Tokens tokens, int k) {
            tokens.advance();
            if (!tokens.needsNumber(0, Machine.REGISTERS - 1)) {
                return false;
            }
            addOp(k, REG, tokens.number);
            draft.places.put(k, Unit.DIRECT, 1);
            tokens.advance();
            return true;
        }

        private boolean readOps(Tokens tokens, int k) {
            depth = 0;
            draft.places.put(k, Unit.DIRECT, 0);
            if (!readOp(tokens, k)) {
                return false;
            }
            for (int i = 0; i <= Unit.OPS && !tokens.isSign(';'); i++) {
                if (tokens.wordHere() == VALUE) {
                    draft.places.put(k, Unit.DIRECT, 1);
                    tokens.advance();
                    return true;
                }
                if (!readOp(tokens, k)) {
                    return false;
                }
            }
            return true;
        }

        private boolean readOp(Tokens tokens, int k) {
            int op = tokens.kind == Tokens.DIGITS ? Unit.PUSH : tokens.wordHere();
            int needs = needsOf(op);
            if (needs == NONE) {
                return tokens.fail(1);
            }
            if (draft.places.at(k, Unit.STEPS) >= Unit.OPS) {
                return tokens.fail(4);
            }
            if (depth < needs) {
                return tokens.fail(5);
            }
            if (op == REG) {
                tokens.advance();
                if (!tokens.needsNumber(0, Machine.REGISTERS - 1)) {
                    return false;
                }
            }
            addOp(k, op, tokens.number);
            depth += growthOf(op);
            tokens.advance();
            return true;
        }

        private void addOp(int k, int op, int number) {
            int n = draft.places.at(k, Unit.STEPS);
            draft.places.put(k, Unit.CODE + 2 * n, op);
            draft.places.put(k, Unit.CODE + 2 * n + 1, number);
            draft.places.put(k, Unit.STEPS, n + 1);
        }

        /** How many an OP needs on the stack; NONE: it is no OP. */
        static int needsOf(int op) {
            switch (op) {
                case Unit.PUSH:
                case REG:
                    return 0;
                case LOAD:
                case DUP:
                    return 1;
                case PLUS:
                case MINUS:
                case TIMES:
                case SWAP:
                    return 2;
                default:
                    return NONE;
            }
        }

        private static int growthOf(int op) {
            switch (op) {
                case Unit.PUSH:
                case REG:
                case DUP:
                    return 1;
                case LOAD:
                case SWAP:
                    return 0;
                default:
                    return -1;
            }
        }
    }

    /** Registers, memory, stops and the ADDRESS where it stands; a deed tells why it can't be, or 0. */
    private static final class Machine {
        static final int REGISTERS = 8;
        static final int PLACES = 64;
        static final int STOPS = 8;

        final int[] registers = new int[REGISTERS];
        final int[] memory = new int[PLACES];
        final int[] stops = new int[STOPS];
        int stopCount = 0;
        int address = 0;
        int deeds = 0;

        void makeNew() {
            for (int i = 0; i < REGISTERS; i++) {
                registers[i] = 0;
            }
            for (int i = 0; i < PLACES; i++) {
                memory[i] = 0;
            }
            stopCount = 0;
            address = 0;
            deeds = 0;
        }

        void copyFrom(Machine other) {
            System.arraycopy(other.registers, 0, registers, 0, REGISTERS);
            System.arraycopy(other.memory, 0, memory, 0, PLACES);
            System.arraycopy(other.stops, 0, stops, 0, STOPS);
            stopCount = other.stopCount;
            address = other.address;
            deeds = other.deeds;
        }

        int registerAt(int k) {
            return k >= 0 && k < REGISTERS ? registers[k] : NONE;
        }

        int memoryAt(int a) {
            return a >= 0 && a < PLACES ? memory[a] : NONE;
        }

        int perform(Unit unit, int deed, int a, int b) {
            int why;
            switch (deed) {
                case SET:
                    why = write(registers, a, b);
                    break;
                case POKE:
                    why = write(memory, a, b);
                    break;
                case GO:
                    why = moveTo(a == address ? NONE : a);
                    break;
                case STOP:
                    why = addStop(a);
                    break;
                case CLEAR:
                    why = dropStop(a);
                    break;
                case STEP:
                    why = moveTo(unit.stepTo(address));
                    break;
                case LEAVE:
                    why = leaveScope(unit);
                    break;
                default:
                    why = moveTo(stoppingRow(unit));
                    break;
            }
            if (why == 0) {
                deeds++;
            }
            return why;
        }

        private static int write(int[] cells, int k, int n) {
            if (k < 0 || k >= cells.length) {
                return NONE;
            }
            if (cells[k] == n) {
                return 1;
            }
            cells[k] = n;
            return 0;
        }

        private int moveTo(int a) {
            if (a == NONE) {
                return 1;
            }
            address = a;
            return 0;
        }

        private int stopOf(int line) {
            for (int i = 0; i < stopCount && i < STOPS; i++) {
                if (stops[i] == line) {
                    return i;
                }
            }
            return NONE;
        }

        boolean hasStop(int line) {
            return stopOf(line) != NONE;
        }

        private int addStop(int line) {
            if (hasStop(line)) {
                return 1;
            }
            if (stopCount >= STOPS) {
                return 2;
            }
            stops[stopCount] = line;
            stopCount++;
            return 0;
        }

        private int dropStop(int line) {
            int k = stopOf(line);
            if (k == NONE) {
                return 1;
            }
            stopCount--;
            stops[k] = stops[stopCount];
            return 0;
        }

        private int leaveScope(Unit unit) {
            int scope = unit.scopeBehind(address, NONE);
            if (scope == NONE) {
                return 1;
            }
            int to = unit.scopes.at(scope, Unit.TO);
            return unit.hasAddress(to) ? moveTo(to) : 2;
        }

        private int stoppingRow(Unit unit) {
            for (int i = unit.rowOf(address) + 1; i < unit.rows.count; i++) {
                if (hasStop(unit.rows.at(i, Unit.LINE))) {
                    return unit.rows.at(i, Unit.AT);
                }
            }
            return NONE;
        }
    }

    /** Finds the VALUE of a VAR by the EXPR of its 'where'. */
    private static final class Finder {
        private final int[] stack = new int[Unit.OPS];
        private int depth = 0;
        int found = 0;

        /** Why it is not there; 0: it is, and its VALUE is found. */
        int look(Unit unit, Machine machine, int v, int a) {
            int place = unit.hasAddress(a) ? unit.placeAt(v, a) : NONE;
            if (place == NONE) {
                return 1;
            }
            if (!doOps(unit, machine, place)) {
                return 2;
            }
            int top = pop();
            boolean direct = unit.places.at(place, Unit.DIRECT) == 1;
            int word = direct ? top & MOST_WORD : machine.memoryAt(top);
            if (word == NONE) {
                return 3;
            }
            found = unit.bitsOf(v, word);
            return 0;
        }

        /** VARS that have a VALUE where the machine stands, as bits. */
        int varsThere(Unit unit, Machine machine) {
            int bits = 0;
            for (int v = 0; v < unit.vars.count; v++) {
                if (look(unit, machine, v, machine.address) == 0) {
                    bits |= 1 << v;
                }
            }
            return bits;
        }

        private boolean doOps(Unit unit, Machine machine, int place) {
            depth = 0;
            int steps = unit.places.at(place, Unit.STEPS);
            for (int i = 0; i < steps; i++) {
                int op = unit.places.at(place, Unit.CODE + 2 * i);
                int number = unit.places.at(place, Unit.CODE + 2 * i + 1);
                if (!doOp(machine, op, number)) {
                    return false;
                }
            }
            return true;
        }

        /** False at a 'load' of a place that is none. */
        private boolean doOp(Machine machine, int op, int number) {
            int top = UnitReader.needsOf(op) > 0 ? pop() : 0;
            int low = UnitReader.needsOf(op) > 1 ? pop() : 0;
            switch (op) {
                case Unit.PUSH:
                    push(number);
                    break;
                case REG:
                    push(machine.registerAt(number));
                    break;
                case LOAD:
                    push(machine.memoryAt(top));
                    return machine.memoryAt(top) != NONE;
                case DUP:
                    push(top);
                    push(top);
                    break;
                case PLUS:
                    push(low + top);
                    break;
                case MINUS:
                    push(low - top);
                    break;
                case TIMES:
                    push(low * top);
                    break;
                default:
                    push(top);
                    push(low);
                    break;
            }
            return true;
        }

        private void push(int n) {
            if (depth < stack.length) {
                stack[depth] = n;
                depth++;
            }
        }

        private int pop() {
            if (depth <= 0) {
                return 0;
            }
            depth--;
            return stack[depth];
        }
    }

    /** DEEDS drawn by a seed. */
    private static final class Draws {
        private int x = 0;

        /** How many of so many deeds were done. */
        int doDeeds(Unit unit, Machine machine, int many, int seed) {
            x = seed;
            int done = 0;
            for (int i = 0; i < many; i++) {
                if (doDeed(unit, machine) == 0) {
                    done++;
                }
            }
            return done;
        }

        private int draw(int n) {
            x = x * 1103515245 + 12345;
            return n > 0 ? (x >>> 8) % n : 0;
        }

        private int doDeed(Unit unit, Machine machine) {
            int deed;
            int a = 0;
            int b = 0;
            switch (draw(8)) {
                case 0:
                    deed = SET;
                    a = draw(Machine.REGISTERS);
                    b = draw(1000);
                    break;
                case 1:
                    deed = POKE;
                    a = draw(Machine.PLACES);
                    b = draw(1000);
                    break;
                case 2:
                    deed = GO;
                    a = draw(unit.size);
                    break;
                case 3:
                case 4:
                    deed = STEP;
                    break;
                case 5:
                    deed = LEAVE;
                    break;
                case 6:
                    deed = RUN;
                    break;
                default:
                    a = draw(MOST_LINE) + 1;
                    deed = machine.hasStop(a) ? CLEAR : STOP;
                    break;
            }
            return machine.perform(unit, deed, a, b);
        }
    }

    /** LINES of a BOOK: a word and its numbers. */
    private static final class Book {
        static final int MOST_BYTES = 400;
        static final int MOST_NUMBER = 999;

        private final Table lines = new Table(40, 3);
        /** How many LINES were done by the latest judge. */
        int right = 0;

        void readLines(Tokens tokens) {
            lines.forget();
            tokens.begin(MOST_BYTES);
            for (int i = 0; i < MOST_BYTES && tokens.kind != Tokens.END; i++) {
                if (!readLine(tokens) || !tokens.passSign(';')) {
                    return;
                }
            }
        }

        private boolean readLine(Tokens tokens) {
            int word = tokens.wordHere();
            if (word < SET || word > RUN) {
                return tokens.fail(1);
            }
            if (lines.isFull()) {
                return tokens.fail(4);
            }
            int k = lines.add(0L);
            lines.put(k, 0, word);
            tokens.advance();
            switch (word) {
                case SET:
                    return readNumber(tokens, 1, 0, Machine.REGISTERS - 1) && readNumber(tokens, 2, 0, MOST_NUMBER);
                case POKE:
                    return readNumber(tokens, 1, 0, Machine.PLACES - 1) && readNumber(tokens, 2, 0, MOST_NUMBER);
                case GO:
                    return readNumber(tokens, 1, 0, MOST_NUMBER);
                case STOP:
                case CLEAR:
                    return readNumber(tokens, 1, 1, MOST_LINE);
                default:
                    return true;
            }
        }

        private boolean readNumber(Tokens tokens, int column, int least, int most) {
            if (!tokens.needsNumber(least, most)) {
                return false;
            }
            lines.put(lines.count - 1, column, tokens.number);
            tokens.advance();
            return true;
        }

        /** Does the LINES as far as none is WRONG: why the next one is, or 0. */
        int judge(Unit unit, Machine machine) {
            right = 0;
            for (int i = 0; i < lines.count; i++) {
                int why = judgeLine(unit, machine, i);
                if (why != 0) {
                    return why;
                }
                right++;
            }
            return 0;
        }

        private int judgeLine(Unit unit, Machine machine, int k) {
            int deed = lines.at(k, 0);
            int a = lines.at(k, 1);
            if (deed == GO && !unit.hasAddress(a)) {
                return 29;
            }
            int why = machine.perform(unit, deed, a, lines.at(k, 2));
            return why == 0 ? 0 : 10 * (deed - SET) + why;
        }
    }

    /** ONES with what joins them, each behind what it joins; of no length: there is none. */
    private static final class Sentence {
        /** 20 ONES and what joins them. */
        static final int MOST = 40;

        int length = 0;
        private final int[] words = new int[MOST];
        private final int[] signs = new int[MOST];
        private final int[] numbers = new int[MOST];
        private final boolean[] stack = new boolean[MOST];
        private int depth = 0;

        void forget() {
            length = 0;
        }

        void copyFrom(Sentence other) {
            length = other.length;
            System.arraycopy(other.words, 0, words, 0, MOST);
            System.arraycopy(other.signs, 0, signs, 0, MOST);
            System.arraycopy(other.numbers, 0, numbers, 0, MOST);
        }

        void add(int word, int sign, int number) {
            if (length < MOST) {
                words[length] = word;
                signs[length] = sign;
                numbers[length] = number;
                length++;
            }
        }

        boolean isSaidOf(Unit unit, Machine machine, Finder finder, int v) {
            depth = 0;
            for (int i = 0; i < length && i < MOST; i++) {
                if (words[i] == NOT) {
                    push(!pop());
                } else if (words[i] == AND || words[i] == OR) {
                    boolean last = pop();
                    boolean first = pop();
                    push(words[i] == AND ? first && last : first || last);
                } else {
                    push(isOne(unit, machine, finder, v, i));
                }
            }
            return pop();
        }

        private void push(boolean b) {
            if (depth < MOST) {
                stack[depth] = b;
                depth++;
            }
        }

        private boolean pop() {
            if (depth <= 0) {
                return false;
            }
            depth--;
            return stack[depth];
        }

        private boolean isOne(Unit unit, Machine machine, Finder finder, int v, int i) {
            int scope = unit.vars.at(v, Unit.HOME);
            int type = unit.vars.at(v, Unit.KIND);
            switch (words[i]) {
                case THERE:
                    return finder.look(unit, machine, v, machine.address) == 0;
                case LOCAL:
                    return unit.scopeHas(scope, machine.address);
                case SIGNED:
                    return unit.types.at(type, Unit.SIGN) == 1;
                case WITHIN:
                    return unit.isWithin(scope, numbers[i]);
                case BITS:
                    return isSo(unit.types.at(type, Unit.MANY), i);
                case PLACES:
                    return isSo(unit.placesOf(v), i);
                case VALUE:
                    return finder.look(unit, machine, v, machine.address) == 0 && isSo(finder.found, i);
                default:
                    return isSo(v, i);
            }
        }

        private boolean isSo(int n, int i) {
            if (signs[i] == '<') {
                return n < numbers[i];
            }
            return signs[i] == '>' ? n > numbers[i] : n == numbers[i];
        }
    }

    /** Reads the tape as a SENTENCE into a draft. */
    private static final class SentenceReader {
        static final int MOST_BYTES = 200;
        static final int MOST_ONES = 20;
        static final int MOST_DEPTH = 8;

        final Sentence draft = new Sentence();
        private int ones = 0;

        /** How many ONES; of no meaning with a FAULT. */
        int readSentence(Tokens tokens, Unit unit) {
            draft.forget();
            ones = 0;
            tokens.begin(MOST_BYTES);
            if (readCond(tokens, unit, 1) && tokens.kind != Tokens.END) {
                tokens.fail(1);
            }
            return ones;
        }

        private boolean readCond(Tokens tokens, Unit unit, int depth) {
            boolean isAll = false;
            boolean isMore = false;
            for (int i = 0; i <= MOST_ONES; i++) {
                if (!readOne(tokens, unit, depth)) {
                    return false;
                }
                if (isAll) {
                    draft.add(AND, 0, 0);
                }
                isAll = tokens.wordHere() == AND;
                if (!isAll && isMore) {
                    draft.add(OR, 0, 0);
                }
                if (!isAll && tokens.wordHere() != OR) {
                    return true;
                }
                isMore = isMore || !isAll;
                tokens.advance();
            }
            return tokens.fail(4);
        }

        private boolean readOne(Tokens tokens, Unit unit, int depth) {
            int word = tokens.wordHere();
            boolean bracket = tokens.isSign('(');
            if (!bracket && !isFirstWord(word)) {
                return tokens.fail(1);
            }
            if (ones >= MOST_ONES || depth > MOST_DEPTH) {
                return tokens.fail(4);
            }
            ones++;
            tokens.advance();
            if (bracket) {
                return readCond(tokens, unit, depth + 1) && tokens.passSign(')');
            }
            if (word == NOT) {
                boolean read = readOne(tokens, unit, depth + 1);
                draft.add(NOT, 0, 0);
                return read;
            }
            if (word == THERE || word == LOCAL || word == SIGNED) {
                draft.add(word, 0, 0);
                return true;
            }
            return word == WITHIN ? readScopeName(tokens, unit) : readCompared(tokens, word);
        }

        private static boolean isFirstWord(int word) {
            switch (word) {
                case NOT:
                case THERE:
                case LOCAL:
                case SIGNED:
                case WITHIN:
                case BITS:
                case PLACES:
                case VALUE:
                case NUMBER:
                    return true;
                default:
                    return false;
            }
        }

        private boolean readScopeName(Tokens tokens, Unit unit) {
            if (!tokens.needsName()) {
                return false;
            }
            int scope = unit.scopes.find(tokens.name);
            if (scope == NONE) {
                return tokens.fail(3);
            }
            draft.add(WITHIN, 0, scope);
            tokens.advance();
            return true;
        }

        private boolean readCompared(Tokens tokens, int word) {
            if (!tokens.isSign('<') && !tokens.isSign('=') && !tokens.isSign('>')) {
                return tokens.fail(1);
            }
            int sign = tokens.sign;
            tokens.advance();
            if (!tokens.needsNumber(0, Book.MOST_NUMBER)) {
                return false;
            }
            draft.add(word, sign, tokens.number);
            tokens.advance();
            return true;
        }
    }

    /** PROGRAMS of bytes. */
    private static final class Packer {
        static final int MOST_ROWS = 30;
        static final int FAR = 17;
        static final int FIRST_OP = 10;
        static final int LINES = 12;
        static final int LEAST_MORE = -4;
        static final int MOST_MORE = 7;
        static final int MOST_ADDRESS = 255;

        /** At most six bytes a row. */
        final Table program = new Table(6 * MOST_ROWS + 1, 1);
        final Table rows = new Table(MOST_ROWS, 2);
        private final Table draft = new Table(MOST_ROWS, 2);
        private int address = 0;
        private int line = 1;

        void pack(Table told) {
            program.forget();
            address = 0;
            line = 1;
            for (int i = 0; i < told.count; i++) {
                int a = told.at(i, Unit.AT);
                int l = told.at(i, Unit.LINE);
                packRow(a - address, l - line);
                address = a;
                line = l;
            }
            putByte(0);
        }

        private void putByte(int n) {
            program.put(program.add(0L), 0, n);
        }

        /** Bytes to a row from the one ahead are the same whatever comes ahead or behind: each is packed alone. */
        private void packRow(int upAll, int moreAll) {
            int up = upAll;
            int more = moreAll;
            for (int i = 0; i < 6; i++) {
                int left = bytesFor(up, more);
                if (left == 1) {
                    putByte(up == 0 && more == 0 ? 1 : FIRST_OP + up * LINES + more - LEAST_MORE);
                    return;
                }
                int n = leastUp(up, more, left);
                int rest = n == NONE ? mostRest(up, left) : LEAST_MORE - 1;
                if (n != NONE) {
                    putByte(2);
                    putByte(n);
                    up -= n;
                } else if (rest >= LEAST_MORE) {
                    putByte(3);
                    putByte(((more - rest) >>> 8) & 255);
                    putByte((more - rest) & 255);
                    more = rest;
                } else {
                    putByte(4);
                    up -= FAR;
                }
            }
        }

        /** The fewest bytes to a row so many ADDRESSES up, with a line so many more. */
        private static int bytesFor(int up, int more) {
            if (more < LEAST_MORE || more > MOST_MORE) {
                return 4 + bytesUp(up, 20);
            }
            // the last op is 255 at most: with 20 up it has no room for all lines
            return 1 + bytesUp(up, more > 1 ? 19 : 20);
        }

        /** The fewest bytes by which so many ADDRESSES are no more than the last op can go. */
        private static int bytesUp(int up, int reach) {
            if (up <= reach) {
                return 0;
            }
            return up - FAR <= reach ? 1 : 2;
        }

        private static int leastUp(int up, int more, int left) {
            for (int n = 0; n <= up && n <= MOST_ADDRESS; n++) {
                if (2 + bytesFor(up - n, more) == left) {
                    return n;
                }
            }
            return NONE;
        }

        /** The most that may be left to the last op, so that the line's bytes are least; below LEAST_MORE: none. */
        private static int mostRest(int up, int left) {
            int rest = MOST_MORE;
            for (int i = 0; i < LINES && 3 + bytesFor(up, rest) != left; i++) {
                rest--;
            }
            return rest;
        }

        /** The place where the tape is refused; NONE: its rows are told now. */
        int unpack(Tokens tape) {
            draft.forget();
            address = 0;
            line = 1;
            int at = 0;
            for (int i = 0; i < Tokens.MOST && at < tape.length; i++) {
                int op = tape.byteOf(at);
                if (op == 0) {
                    return unpackEnd(tape, at + 1);
                }
                int length = op == 2 ? 2 : op == 3 ? 3 : 1;
                if (op > 4 && op < FIRST_OP || at + length > tape.length || !unpackOp(tape, at)) {
                    return at;
                }
                at += length;
            }
            return tape.length;
        }

        private int unpackEnd(Tokens tape, int behind) {
            if (behind < tape.length) {
                return behind;
            }
            rows.copyFrom(draft);
            return NONE;
        }

        /** False, if it is refused. */
        private boolean unpackOp(Tokens tape, int at) {
            int op = tape.byteOf(at);
            if (op == 1) {
                return unpackRow();
            }
            if (op == 2) {
                address += tape.byteOf(at + 1);
            } else if (op == 3) {
                int more = tape.byteOf(at + 1) * 256 + tape.byteOf(at + 2);
                line += more >= 32768 ? more - 65536 : more;
            } else if (op == 4) {
                address += FAR;
            } else {
                address += (op - FIRST_OP) / LINES;
                line += (op - FIRST_OP) % LINES + LEAST_MORE;
                return unpackRow();
            }
            return address <= MOST_ADDRESS;
        }

        private boolean unpackRow() {
            boolean above = draft.count == 0 || address > draft.at(draft.count - 1, Unit.AT);
            boolean told = line >= 1 && line <= MOST_LINE;
            if (!above || !told || address > MOST_ADDRESS || draft.isFull()) {
                return false;
            }
            int k = draft.add(0L);
            draft.put(k, Unit.AT, address);
            draft.put(k, Unit.LINE, line);
            return true;
        }
    }
}
