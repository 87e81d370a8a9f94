import java.util.ArrayDeque;
import java.util.ArrayList;
import java.util.Arrays;
import java.util.Comparator;
import java.util.HashMap;
import java.util.List;
import java.util.Map;
import java.util.NoSuchElementException;
import java.util.Set;
import java.util.TreeMap;
import java.util.TreeSet;
import java.util.function.IntPredicate;

/** The document once more, in another way and with the Java library, to compare the class with. */
final class Model {
    static final int NONE = -1;
    static final Set<String> WORDS = Set.of("size", "row", "scope", "type", "plain", "signed", "var", "where", "in", "value", "reg",
        "plus", "minus", "times", "load", "dup", "swap", "set", "poke", "go", "stop", "clear", "step", "leave", "run", "or", "and",
        "not", "there", "local", "within", "bits", "places", "number");

    static final class Fault extends RuntimeException {
        final int kind;
        final int place;

        Fault(int kind, int place) {
            super(null, null, false, false);
            this.kind = kind;
            this.place = place;
        }
    }

    record Token(char sort, int start, String text) {
        int n() {
            return Integer.parseInt(text);
        }
    }

    record Scope(String name, int number, int from, int to, int line) {
        boolean has(int a) {
            return from <= a && a < to;
        }
    }

    record Type(String name, int first, int many, boolean signed) {
    }

    record Var(String name, int number, Scope scope, int type) {
    }

    record Where(Var var, int from, int to, List<Token> expr) {
        boolean has(int a) {
            return from <= a && a < to;
        }
    }

    static final class Code {
        int size = 256;
        int lines = 0;
        final TreeMap<Integer, Integer> rows = new TreeMap<>();
        final List<Scope> scopes = new ArrayList<>();
        final List<Type> types = new ArrayList<>();
        final List<Var> vars = new ArrayList<>();
        final List<Where> wheres = new ArrayList<>();
        final Map<String, Object> names = new HashMap<>();

        int line(int a) {
            return a < 0 || a >= size || rows.floorEntry(a) == null ? NONE : rows.floorEntry(a).getValue();
        }

        List<Scope> chain(int a) {
            List<Scope> chain = new ArrayList<>();
            for (Scope s : scopes) {
                if (s.has(a)) {
                    chain.add(s);
                }
            }
            chain.sort(Comparator.comparingInt((Scope s) -> s.to - s.from).thenComparingInt(s -> -s.number));
            return chain;
        }

        Scope inner(int a) {
            List<Scope> chain = chain(a);
            return chain.isEmpty() ? null : chain.get(0);
        }

        Where where(int v, int a) {
            for (Where w : wheres) {
                if (w.var.number == v && w.has(a)) {
                    return w;
                }
            }
            return null;
        }

        int wheres(int v) {
            return (int) wheres.stream().filter(w -> w.var.number == v).count();
        }
    }

    final class Text {
        final int most;
        final List<Token> tokens = new ArrayList<>();
        int at = 0;

        Text(int most) {
            this.most = most;
            String text = new String(tape);
            int i = 0;
            while (i < text.length() && i < most) {
                char c = text.charAt(i);
                int from = i++;
                if (c == ' ' || c == '\n') {
                    continue;
                }
                if (("" + c).matches("[a-z0-9]")) {
                    while (i < text.length() && ("" + text.charAt(i)).matches("[a-z0-9]")) {
                        i++;
                    }
                }
                String word = text.substring(from, i);
                char sort = word.matches("[a-z]{1,7}") ? 'w' : word.matches("[0-9]{1,3}") ? 'n' : word.matches("[;<=>().]") ? 's' : '?';
                tokens.add(new Token(sort, from, word));
            }
            if (text.length() > most) {
                tokens.add(new Token('?', most, ""));
            } else {
                tokens.add(new Token('e', text.length(), ""));
            }
        }

        Token peek() {
            return tokens.get(at);
        }

        Token take() {
            return tokens.get(at++);
        }

        boolean is(String... texts) {
            return Arrays.asList(texts).contains(peek().text) && peek().sort != '?' && peek().sort != 'e';
        }

        void fail(int kind) {
            throw new Fault(kind, peek().start);
        }

        Token need(String... texts) {
            if (!is(texts)) {
                fail(1);
            }
            return take();
        }

        int number(int least, int most) {
            if (peek().sort != 'n') {
                fail(1);
            }
            if (peek().n() < least || peek().n() > most) {
                fail(2);
            }
            return take().n();
        }

        void name() {
            if (peek().sort != 'w' || WORDS.contains(peek().text)) {
                fail(1);
            }
        }

        String newName(Code code) {
            name();
            if (code.names.containsKey(peek().text)) {
                fail(3);
            }
            return take().text;
        }

        <T> T told(Code code, Class<T> sort) {
            name();
            Object o = code.names.get(peek().text);
            if (!sort.isInstance(o)) {
                fail(3);
            }
            at++;
            return sort.cast(o);
        }
    }

    // ---- what an object holds ----

    static final class Mach {
        int[] reg = new int[8];
        int[] mem = new int[64];
        TreeSet<Integer> stops = new TreeSet<>();
        int at = 0;
        int deeds = 0;

        Mach copy() {
            Mach m = new Mach();
            m.reg = reg.clone();
            m.mem = mem.clone();
            m.stops = new TreeSet<>(stops);
            m.at = at;
            m.deeds = deeds;
            return m;
        }
    }

    record Image(Code code, Mach mach, IntPredicate sentence) {
    }

    char[] tape = new char[0];
    Code code = new Code();
    Mach mach = new Mach();
    IntPredicate sentence = null;
    final ArrayDeque<Mach> undo = new ArrayDeque<>();
    final Image[] images = new Image[2];
    int fault = 0;
    List<int[]> chain = new ArrayList<>();
    int[] packed = new int[0];
    List<int[]> unpacked = new ArrayList<>();
    String tag = "";
    int[] told = null;

    // ---- the tape ----

    int feed(int... five) {
        if (tape.length + 20 > 940) {
            return NONE;
        }
        StringBuilder more = new StringBuilder(new String(tape));
        for (int n : five) {
            more.append((char) (n >>> 24)).append((char) (n >>> 16 & 255)).append((char) (n >>> 8 & 255)).append((char) (n & 255));
        }
        tape = more.toString().toCharArray();
        return tape.length;
    }

    boolean end(int n) {
        if (n < 0 || n > tape.length) {
            return false;
        }
        tape = Arrays.copyOf(tape, n);
        return true;
    }

    int unit() {
        try {
            Code told = readUnit(new Text(900));
            code = told;
            mach = new Mach();
            sentence = null;
            undo.clear();
            fault = 0;
            return told.lines;
        } catch (Fault f) {
            fault = f.kind;
            return -1 - f.place;
        } finally {
            tape = new char[0];
        }
    }

    private Code readUnit(Text t) {
        Code c = new Code();
        while (t.peek().sort != 'e') {
            if (t.is("size")) {
                if (c.lines > 0) {
                    t.fail(3);
                }
                t.take();
                c.size = t.number(1, 256);
            } else if (t.is("row")) {
                most(t, c.rows.size(), 30);
                if (t.peek().sort == 'n' && t.peek().n() < c.size && c.rows.containsKey(t.peek().n())) {
                    t.fail(3);
                }
                int a = t.number(0, c.size - 1);
                c.rows.put(a, t.number(1, 250));
            } else if (t.is("scope")) {
                most(t, c.scopes.size(), 10);
                String name = t.newName(c);
                int from = t.number(0, c.size - 1);
                int place = t.at;
                int to = t.number(from + 1, c.size);
                for (Scope s : c.scopes) {
                    int both = 0;
                    int one = 0;
                    int other = 0;
                    for (int a = 0; a < c.size; a++) {
                        boolean in = from <= a && a < to;
                        both += in && s.has(a) ? 1 : 0;
                        one += in ? 1 : 0;
                        other += s.has(a) ? 1 : 0;
                    }
                    if (both != 0 && both != one && both != other) {
                        t.at = place;
                        t.fail(3);
                    }
                }
                Scope s = new Scope(name, c.scopes.size(), from, to, t.number(0, 250));
                c.scopes.add(s);
                c.names.put(name, s);
            } else if (t.is("type")) {
                most(t, c.types.size(), 6);
                String name = t.newName(c);
                int first = t.number(0, 15);
                int many = t.number(1, Math.min(16, 16 - first));
                Type type = new Type(name, first, many, t.need("plain", "signed").text.equals("signed"));
                c.types.add(type);
                c.names.put(name, type);
            } else if (t.is("var")) {
                most(t, c.vars.size(), 10);
                String name = t.newName(c);
                Scope s = t.told(c, Scope.class);
                Var v = new Var(name, c.vars.size(), s, c.types.indexOf(t.told(c, Type.class)));
                c.vars.add(v);
                c.names.put(name, v);
            } else if (t.is("where")) {
                most(t, c.wheres.size(), 16);
                Var v = t.told(c, Var.class);
                int from = t.number(0, c.size - 1);
                int place = t.at;
                int to = t.number(from + 1, c.size);
                for (int a = from; a < to; a++) {
                    if (!v.scope.has(a) || c.where(v.number, a) != null) {
                        t.at = place;
                        t.fail(3);
                    }
                }
                c.wheres.add(new Where(v, from, to, readExpr(t)));
            } else {
                t.fail(1);
            }
            t.need(";");
            c.lines++;
        }
        return c;
    }

    private static void most(Text t, int are, int most) {
        if (are == most) {
            t.fail(4);
        }
        t.take();
    }

    private static List<Token> readExpr(Text t) {
        List<Token> expr = new ArrayList<>();
        if (t.is("in")) {
            expr.add(t.take());
            expr.add(t.peek());
            t.number(0, 7);
            return expr;
        }
        int ops = 0;
        int high = 0;
        do {
            if (t.peek().sort != 'n' && !t.is("reg", "plus", "minus", "times", "load", "dup", "swap")) {
                t.fail(1);
            }
            if (ops == 8) {
                t.fail(4);
            }
            if (t.is("plus", "minus", "times", "swap") && high < 2 || t.is("load", "dup") && high < 1) {
                t.fail(5);
            }
            high += t.is("plus", "minus", "times") ? -1 : t.is("load", "swap") ? 0 : 1;
            ops++;
            boolean reg = t.is("reg");
            expr.add(t.take());
            if (reg) {
                expr.add(t.peek());
                t.number(0, 7);
            }
        } while (!t.is(";", "value"));
        if (t.is("value")) {
            expr.add(t.take());
        }
        return expr;
    }

    int fault() {
        return fault;
    }

    int row(int k, int what) {
        List<Integer> at = new ArrayList<>(code.rows.keySet());
        if (k < 0 || k >= at.size() || what < 0 || what > 2) {
            return NONE;
        }
        int a = at.get(k);
        int next = k + 1 < at.size() ? at.get(k + 1) : code.size;
        return what == 0 ? a : what == 1 ? code.rows.get(a) : next - a;
    }

    int scope(int s, int what) {
        if (s < 0 || s >= code.scopes.size()) {
            return NONE;
        }
        Scope p = code.scopes.get(s);
        switch (what) {
            case 0:
                return p.from;
            case 1:
                return p.to;
            case 2:
                return p.line;
            case 3:
                List<Scope> c = code.chain(p.from);
                int i = c.indexOf(p) + 1;
                return i < c.size() ? c.get(i).number : NONE;
            case 4:
                return code.vars.stream().filter(v -> v.scope == p).mapToInt(v -> 1 << v.number).sum();
            default:
                return NONE;
        }
    }

    int var(int v, int what) {
        if (v < 0 || v >= code.vars.size() || what < 0 || what > 5) {
            return NONE;
        }
        Var x = code.vars.get(v);
        Type t = code.types.get(x.type);
        return new int[] {x.scope.number, x.type, code.wheres(v), t.first, t.many, t.signed ? 1 : 0}[what];
    }

    int placeOf(int v, int a) {
        return code.wheres.indexOf(code.where(v, a));
    }

    int lineAt(int a) {
        return code.line(a);
    }

    int addressOf(int line, int k) {
        List<Integer> at = new ArrayList<>();
        code.rows.forEach((a, l) -> {
            if (l == line) {
                at.add(a);
            }
        });
        return k >= 0 && k < at.size() ? at.get(k) : NONE;
    }

    int chain(int a) {
        if (a < 0 || a >= code.size) {
            return NONE;
        }
        chain = new ArrayList<>();
        int line = code.line(a);
        for (Scope s : code.chain(a)) {
            chain.add(new int[] {s.number, line});
            line = s.line;
        }
        return chain.size();
    }

    int chainAt(int k) {
        return k >= 0 && k < chain.size() ? chain.get(k)[0] : NONE;
    }

    int chainLine(int k) {
        return k >= 0 && k < chain.size() ? chain.get(k)[1] : NONE;
    }

    // ---- VARS ----

    /** Two numbers: why it is not there, its VALUE. */
    private int[] look(Mach m, int v, int a) {
        Where w = code.where(v, a);
        if (w == null) {
            return new int[] {1, 0};
        }
        ArrayDeque<Integer> stack = new ArrayDeque<>();
        boolean direct = false;
        for (int i = 0; i < w.expr.size(); i++) {
            String op = w.expr.get(i).text;
            if (op.equals("in")) {
                stack.push(m.reg[w.expr.get(++i).n()]);
                direct = true;
            } else if (op.equals("value")) {
                direct = true;
            } else if (op.equals("reg")) {
                stack.push(m.reg[w.expr.get(++i).n()]);
            } else if (op.equals("dup")) {
                stack.push(stack.peek());
            } else if (op.equals("load")) {
                int p = stack.pop();
                if (p < 0 || p > 63) {
                    return new int[] {2, 0};
                }
                stack.push(m.mem[p]);
            } else if (Character.isDigit(op.charAt(0))) {
                stack.push(Integer.parseInt(op));
            } else {
                int top = stack.pop();
                int low = stack.pop();
                if (op.equals("swap")) {
                    stack.push(top);
                    stack.push(low);
                } else {
                    stack.push(op.equals("plus") ? low + top : op.equals("minus") ? low - top : low * top);
                }
            }
        }
        int word = stack.pop();
        if (!direct) {
            if (word < 0 || word > 63) {
                return new int[] {3, 0};
            }
            word = m.mem[word];
        }
        Type t = code.types.get(code.vars.get(v).type);
        String bits = String.format("%32s", Integer.toBinaryString(word)).replace(' ', '0');
        String cut = bits.substring(32 - t.first - t.many, 32 - t.first);
        int value = Integer.parseInt(cut, 2) - (t.signed && cut.charAt(0) == '1' ? 1 << t.many : 0);
        return new int[] {0, value};
    }

    private boolean isVar(int v) {
        return v >= 0 && v < code.vars.size();
    }

    int value(int v, int a) {
        if (!isVar(v) || look(mach, v, a)[0] != 0) {
            throw new NoSuchElementException();
        }
        return look(mach, v, a)[1];
    }

    int why(int v, int a) {
        return !isVar(v) || a < 0 || a >= code.size ? NONE : look(mach, v, a)[0];
    }

    private int there(Mach m) {
        int bits = 0;
        for (Var v : code.vars) {
            bits += look(m, v.number, m.at)[0] == 0 ? 1 << v.number : 0;
        }
        return bits;
    }

    // ---- the machine ----

    int now(int what) {
        Scope s = code.inner(mach.at);
        return what < 0 || what > 5 ? NONE
            : new int[] {mach.at, code.line(mach.at), mach.stops.size(), s == null ? NONE : s.number, there(mach), mach.deeds}[what];
    }

    int register(int k) {
        return k < 0 || k > 7 ? NONE : mach.reg[k];
    }

    int memory(int a) {
        return a < 0 || a > 63 ? NONE : mach.mem[a];
    }

    private int move(Mach m, Integer to) {
        if (to == null) {
            return 1;
        }
        m.at = to;
        return 0;
    }

    private int attempt(Mach m, String deed, int a, int b) {
        Scope s = code.inner(m.at);
        switch (deed) {
            case "set":
                if (m.reg[a] == b) {
                    return 1;
                }
                m.reg[a] = b;
                return 0;
            case "poke":
                if (m.mem[a] == b) {
                    return 1;
                }
                m.mem[a] = b;
                return 0;
            case "go":
                return a >= code.size ? 9 : move(m, a == m.at ? null : a);
            case "stop":
                if (m.stops.contains(a)) {
                    return 1;
                }
                if (m.stops.size() == 8) {
                    return 2;
                }
                m.stops.add(a);
                return 0;
            case "clear":
                return m.stops.remove(a) ? 0 : 1;
            case "step":
                return move(m, code.rows.tailMap(m.at, false).entrySet().stream()
                    .filter(e -> e.getValue() != code.line(m.at) || s != null && !s.has(e.getKey()))
                    .map(Map.Entry::getKey).findFirst().orElse(null));
            case "leave":
                return s == null ? 1 : s.to == code.size ? 2 : move(m, s.to);
            default:
                return move(m, code.rows.tailMap(m.at, false).entrySet().stream()
                    .filter(e -> m.stops.contains(e.getValue())).map(Map.Entry::getKey).findFirst().orElse(null));
        }
    }

    private int act(Mach m, String deed, int a, int b) {
        int why = attempt(m, deed, a, b);
        m.deeds += why == 0 ? 1 : 0;
        return why;
    }

    private void remember(Mach before) {
        undo.addLast(before);
        if (undo.size() > 8) {
            undo.removeFirst();
        }
    }

    int deed(String deed, int a, int b) {
        Mach before = mach.copy();
        int why = act(mach, deed, a, b);
        if (why == 0) {
            remember(before);
        }
        return why;
    }

    int set(int k, int n) {
        return k < 0 || k > 7 || n < 0 || n > 65535 ? NONE : deed("set", k, n);
    }

    int poke(int a, int n) {
        return a < 0 || a > 63 || n < 0 || n > 65535 ? NONE : deed("poke", a, n);
    }

    int go(int a) {
        return a < 0 || a >= code.size ? NONE : deed("go", a, 0);
    }

    int stop(int line) {
        return line < 1 || line > 250 ? NONE : deed("stop", line, 0);
    }

    int clear(int line) {
        return line < 1 || line > 250 ? NONE : deed("clear", line, 0);
    }

    int undo() {
        if (undo.isEmpty()) {
            return NONE;
        }
        mach = undo.removeLast();
        return undo.size();
    }

    // ---- programs ----

    private static int[] better(int[] a, int[] b) {
        return a == null || b != null && (b.length < a.length || b.length == a.length && Arrays.compareUnsigned(bytes(b), bytes(a)) < 0) ? b : a;
    }

    private static byte[] bytes(int[] a) {
        byte[] b = new byte[a.length];
        for (int i = 0; i < a.length; i++) {
            b[i] = (byte) a[i];
        }
        return b;
    }

    private static int[] join(int[] a, int[] b) {
        int[] both = Arrays.copyOf(a, a.length + b.length);
        System.arraycopy(b, 0, both, a.length, b.length);
        return both;
    }

    private final Map<Integer, int[]> best = new HashMap<>();

    /** The best bytes to a row so far up, so many lines more, with so many ops 3 at most. */
    private int[] best(int up, int more, int threes) {
        int key = (up * 1000 + more + 500) * 2 + threes;
        if (best.containsKey(key)) {
            return best.get(key);
        }
        int[] found = up == 0 && more == 0 ? new int[] {1} : null;
        for (int b = 10; b <= 255; b++) {
            if ((b - 10) / 12 == up && (b - 10) % 12 - 4 == more) {
                found = better(found, new int[] {b});
            }
        }
        for (int n = 1; n <= up; n++) {
            int[] rest = best(up - n, more, threes);
            found = rest == null ? found : better(found, join(new int[] {2, n}, rest));
        }
        if (up >= 17 && best(up - 17, more, threes) != null) {
            found = better(found, join(new int[] {4}, best(up - 17, more, threes)));
        }
        if (threes > 0) {
            for (int rest = -4; rest <= 7; rest++) {
                int x = more - rest & 65535;
                int[] tail = best(up, rest, 0);
                found = tail == null ? found : better(found, join(new int[] {3, x >> 8, x & 255}, tail));
            }
        }
        best.put(key, found);
        return found;
    }

    int packed() {
        int[] all = new int[0];
        int at = 0;
        int line = 1;
        for (Map.Entry<Integer, Integer> e : code.rows.entrySet()) {
            all = join(all, best(e.getKey() - at, e.getValue() - line, 1));
            at = e.getKey();
            line = e.getValue();
        }
        packed = join(all, new int[] {0});
        return packed.length;
    }

    int packedAt(int i) {
        return i < 0 || i >= packed.length ? NONE : packed[i];
    }

    int unpacked() {
        char[] p = tape;
        tape = new char[0];
        List<int[]> rows = new ArrayList<>();
        int at = 0;
        int line = 1;
        int i = 0;
        while (i < p.length) {
            int op = p[i];
            int refused = -1 - i;
            if (op == 0) {
                if (i + 1 < p.length) {
                    return -1 - (i + 1);
                }
                unpacked = rows;
                return rows.size();
            }
            if (op >= 5 && op <= 9 || op == 2 && i + 1 >= p.length || op == 3 && i + 2 >= p.length) {
                return refused;
            }
            at += op == 2 ? p[i + 1] : op == 4 ? 17 : op >= 10 ? (op - 10) / 12 : 0;
            line += op == 3 ? (short) (p[i + 1] << 8 | p[i + 2]) : op >= 10 ? (op - 10) % 12 - 4 : 0;
            if (at > 255) {
                return refused;
            }
            if (op == 1 || op >= 10) {
                if (!rows.isEmpty() && rows.get(rows.size() - 1)[0] >= at || line < 1 || line > 250 || rows.size() == 30) {
                    return refused;
                }
                rows.add(new int[] {at, line});
            }
            i += op == 2 ? 2 : op == 3 ? 3 : 1;
        }
        return -1 - p.length;
    }

    int unpackedAt(int k, int what) {
        return k < 0 || k >= unpacked.size() || what < 0 || what > 1 ? NONE : unpacked.get(k)[what];
    }

    int cover(int v, int what) {
        if (!isVar(v) || what < 0 || what > 1) {
            throw new NoSuchElementException();
        }
        Scope s = code.vars.get(v).scope;
        int above = 0;
        for (int a = s.from; a < s.to; a++) {
            above += code.where(v, a) != null ? 1 : 0;
        }
        int below = s.to - s.from;
        for (int d = below; d > 1; d--) {
            if (above % d == 0 && below % d == 0) {
                above /= d;
                below /= d;
            }
        }
        return what == 0 ? above : below;
    }

    int longest() {
        int[] many = new int[251];
        int best = 0;
        for (int a = 0; a < code.size; a++) {
            if (code.line(a) != NONE) {
                many[code.line(a)]++;
            }
        }
        for (int l = 1; l <= 250; l++) {
            best = many[l] > many[best] ? l : best;
        }
        return best == 0 ? NONE : best;
    }

    int tag(int v) {
        if (!isVar(v)) {
            return NONE;
        }
        int[] found = look(mach, v, mach.at);
        Var x = code.vars.get(v);
        tag = x.name + (found[0] == 0 ? " is " + found[1] : " is out") + " in " + x.scope.name;
        return tag.length();
    }

    int byteAt(int i) {
        return i < 0 || i >= tag.length() ? NONE : tag.charAt(i);
    }

    // ---- draws ----

    private int seed;

    private int draw(int n) {
        seed = seed * 1103515245 + 12345;
        return (seed >>> 8) % n;
    }

    private int deeds(Mach m, int n, int x) {
        seed = x;
        int before = m.deeds;
        for (int i = 0; i < n; i++) {
            int kind = draw(8);
            if (kind == 0) {
                int k = draw(8);
                act(m, "set", k, draw(1000));
            } else if (kind == 1) {
                int k = draw(64);
                act(m, "poke", k, draw(1000));
            } else if (kind == 7) {
                int line = draw(250) + 1;
                act(m, m.stops.contains(line) ? "clear" : "stop", line, 0);
            } else {
                act(m, new String[] {"", "", "go", "step", "step", "leave", "run"}[kind], kind == 2 ? draw(code.size) : 0, 0);
            }
        }
        return m.deeds - before;
    }

    int drawn(int n, int x) {
        if (n < 1 || n > 60) {
            return NONE;
        }
        Mach before = mach.copy();
        int done = deeds(mach, n, x);
        if (done > 0) {
            remember(before);
        }
        return done;
    }

    int odds(int v, int n, int x) {
        if (!isVar(v) || n < 1 || n > 30) {
            return NONE;
        }
        int many = 0;
        for (int i = 0; i < n; i++) {
            Mach m = mach.copy();
            deeds(m, 10, x + i);
            many += look(m, v, m.at)[0] == 0 ? 1 : 0;
        }
        return many;
    }

    // ---- BOOK and SENTENCE ----

    int book(int lives) {
        if (lives != 0 && lives != 1) {
            return -1000;
        }
        List<Token[]> lines = new ArrayList<>();
        try {
            Text t = new Text(400);
            while (t.peek().sort != 'e') {
                if (!t.is("set", "poke", "go", "stop", "clear", "step", "leave", "run")) {
                    t.fail(1);
                }
                if (lines.size() == 40) {
                    t.fail(4);
                }
                Token[] line = {t.take(), new Token('n', 0, "0"), new Token('n', 0, "0")};
                String w = line[0].text;
                if (!Set.of("step", "leave", "run").contains(w)) {
                    line[1] = t.peek();
                    boolean stops = Set.of("stop", "clear").contains(w);
                    t.number(stops ? 1 : 0, w.equals("set") ? 7 : w.equals("poke") ? 63 : stops ? 250 : 999);
                }
                if (Set.of("set", "poke").contains(w)) {
                    line[2] = t.peek();
                    t.number(0, 999);
                }
                t.need(";");
                lines.add(line);
            }
            fault = 0;
        } catch (Fault f) {
            fault = f.kind;
            return -2 - f.place;
        } finally {
            tape = new char[0];
        }
        Mach m = mach.copy();
        int wrong = NONE;
        int why = 0;
        for (int i = 0; i < lines.size() && wrong == NONE; i++) {
            Token[] line = lines.get(i);
            why = act(m, line[0].text, line[1].n(), line[2].n());
            if (why != 0) {
                wrong = i;
                why += 10 * List.of("set", "poke", "go", "stop", "clear", "step", "leave", "run").indexOf(line[0].text);
            }
        }
        int ahead = wrong == NONE ? lines.size() : wrong;
        told = new int[] {why, ahead, m.at, there(m)};
        if (lives == 1 && ahead > 0) {
            remember(mach);
            mach = m;
        }
        return wrong;
    }

    int told(int what) {
        return told == null || what < 0 || what > 3 ? NONE : told[what];
    }

    private int ones;

    int sentence() {
        try {
            Text t = new Text(200);
            ones = 0;
            IntPredicate p = cond(t, 1);
            if (t.peek().sort != 'e') {
                t.fail(1);
            }
            sentence = p;
            fault = 0;
            return ones;
        } catch (Fault f) {
            fault = f.kind;
            return -1 - f.place;
        } finally {
            tape = new char[0];
        }
    }

    private IntPredicate cond(Text t, int depth) {
        IntPredicate p = all(t, depth);
        while (t.is("or")) {
            t.take();
            p = p.or(all(t, depth));
        }
        return p;
    }

    private IntPredicate all(Text t, int depth) {
        IntPredicate p = one(t, depth);
        while (t.is("and")) {
            t.take();
            p = p.and(one(t, depth));
        }
        return p;
    }

    private IntPredicate one(Text t, int depth) {
        if (!t.is("not", "(", "there", "local", "signed", "within", "bits", "places", "value", "number")) {
            t.fail(1);
        }
        if (ones == 20 || depth == 9) {
            t.fail(4);
        }
        ones++;
        String w = t.take().text;
        switch (w) {
            case "not":
                return one(t, depth + 1).negate();
            case "(":
                IntPredicate p = cond(t, depth + 1);
                t.need(")");
                return p;
            case "there":
                return v -> look(mach, v, mach.at)[0] == 0;
            case "local":
                return v -> code.vars.get(v).scope.has(mach.at);
            case "signed":
                return v -> code.types.get(code.vars.get(v).type).signed;
            case "within":
                Scope s = t.told(code, Scope.class);
                return v -> {
                    List<Scope> c = code.chain(code.vars.get(v).scope.from);
                    return c.indexOf(s) >= c.indexOf(code.vars.get(v).scope);
                };
            default:
                String sign = t.need("<", "=", ">").text;
                int n = t.number(0, 999);
                return v -> {
                    if (w.equals("value") && look(mach, v, mach.at)[0] != 0) {
                        return false;
                    }
                    int x = w.equals("bits") ? var(v, 4) : w.equals("places") ? var(v, 2) : w.equals("value") ? look(mach, v, mach.at)[1] : v;
                    return sign.equals("<") ? x < n : sign.equals("=") ? x == n : x > n;
                };
        }
    }

    int said(int k) {
        if (sentence == null) {
            return NONE;
        }
        List<Integer> all = new ArrayList<>();
        for (int v = 0; v < code.vars.size(); v++) {
            if (sentence.test(v)) {
                all.add(v);
            }
        }
        return k == NONE ? all.size() : k >= 0 && k < all.size() ? all.get(k) : NONE;
    }

    boolean image(int k) {
        if (k < 0 || k > 1) {
            return false;
        }
        images[k] = new Image(code, mach.copy(), sentence);
        return true;
    }

    boolean restore(int k) {
        if (k < 0 || k > 1 || images[k] == null) {
            return false;
        }
        code = images[k].code;
        mach = images[k].mach.copy();
        sentence = images[k].sentence;
        undo.clear();
        return true;
    }

    int count(int what) {
        return what < 0 || what > 6 ? NONE : new int[] {code.size, code.rows.size(), code.scopes.size(), code.types.size(),
            code.vars.size(), code.wheres.size(), tape.length}[what];
    }
}
