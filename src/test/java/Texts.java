import java.util.ArrayList;
import java.util.List;
import java.util.Random;

/** Random texts: whole ones, and ones with something wrong. */
final class Texts {
    private static final String[] BAD = {"size", "row", "scope", "type", "plain", "signed", "var", "where", "in", "value", "reg", "plus",
        "minus", "times", "load", "dup", "swap", "set", "go", "step", "or", "and", "not", "there", "within", "0", "1", "15", "16", "17",
        "250", "251", "255", "256", "257", "999", "1000", "007", "abcdefg", "abcdefgh", "a1", "1a", ";", "<", "=", ">", "(", ")", ".",
        "A", "-", "sa", "ta", "va", "zz", "\u00e9", ";;"};
    final Random r;

    Texts(Random r) {
        this.r = r;
    }

    int in(int least, int most) {
        return least + r.nextInt(most - least + 1);
    }

    String one(String... of) {
        return of[r.nextInt(of.length)];
    }

    /** Some texts are left as they are, some have a token or a byte changed. */
    String spoil(String text) {
        StringBuilder s = new StringBuilder(text);
        int times = r.nextInt(3) == 0 ? in(1, 2) : 0;
        for (int i = 0; i < times && s.length() > 0; i++) {
            int at = r.nextInt(s.length());
            switch (r.nextInt(6)) {
                case 0 -> s.deleteCharAt(at);
                case 1 -> s.insert(at, one(BAD));
                case 2 -> s.setCharAt(at, one(BAD).charAt(0));
                case 3 -> s.setLength(at);
                default -> {
                    int from = s.lastIndexOf(" ", at - 1) + 1;
                    int to = s.indexOf(" ", at);
                    s.replace(from, to < 0 ? s.length() : to, one(BAD));
                }
            }
        }
        return s.toString();
    }

    private String name(char sort, int k) {
        return "" + sort + (char) ('a' + k);
    }

    private String blank() {
        return r.nextInt(30) == 0 ? one("  ", "\n", " \n") : " ";
    }

    private void line(StringBuilder s, Object... parts) {
        for (int i = 0; i < parts.length; i++) {
            s.append(i == 0 ? "" : blank()).append(parts[i]);
        }
        s.append(r.nextInt(10) == 0 ? " ; " : r.nextInt(20) == 0 ? ";\n" : "; ");
    }

    String unit() {
        StringBuilder s = new StringBuilder();
        int size = r.nextInt(3) == 0 ? 256 : in(1, r.nextInt(2) == 0 ? 40 : 256);
        if (size != 256 || r.nextBoolean()) {
            line(s, "size", size);
        }
        rows(s, size);
        List<int[]> scopes = scopes(s, size);
        int types = r.nextInt(8) == 0 ? in(5, 7) : in(1, 4);
        for (int i = 0; i < types; i++) {
            int first = in(0, 15);
            int many = in(1, 16 - first);
            line(s, "type", name('t', i), first, many, one("plain", "signed"));
        }
        if (!scopes.isEmpty()) {
            vars(s, scopes, types);
        }
        return s.toString();
    }

    private void rows(StringBuilder s, int size) {
        int rows = r.nextInt(8) == 0 ? in(28, 32) : in(0, 10);
        int line = in(1, 250);
        boolean[] is = new boolean[size];
        for (int i = 0; i < rows; i++) {
            int a = r.nextInt(size);
            for (int t = 0; t < 300 && is[a]; t++) {
                a = r.nextInt(size);
            }
            if (is[a] && r.nextInt(10) > 0) {
                break;
            }
            is[a] = true;
            line = r.nextInt(3) == 0 ? in(1, 250) : Math.max(1, Math.min(250, line + in(-6, 9)));
            line(s, "row", a, line);
        }
    }

    private List<int[]> scopes(StringBuilder s, int size) {
        List<int[]> scopes = new ArrayList<>();
        int many = r.nextInt(8) == 0 ? in(9, 11) : in(0, 6);
        for (int t = 0; t < 300 && scopes.size() < many; t++) {
            int from = r.nextInt(3) > 0 && !scopes.isEmpty() ? scopes.get(r.nextInt(scopes.size()))[0] : r.nextInt(size);
            int to = r.nextInt(3) == 0 && !scopes.isEmpty() ? scopes.get(r.nextInt(scopes.size()))[1] : in(1, size);
            boolean fits = from < to;
            for (int[] o : scopes) {
                fits &= to <= o[0] || o[1] <= from || o[0] <= from && to <= o[1] || from <= o[0] && o[1] <= to;
            }
            if (fits || r.nextInt(500) == 0) {
                line(s, "scope", name('s', scopes.size()), from, to, in(0, 250));
                scopes.add(new int[] {from, to});
            }
        }
        return scopes;
    }

    private void vars(StringBuilder s, List<int[]> scopes, int types) {
        int vars = r.nextInt(8) == 0 ? in(9, 11) : in(1, 5);
        int[] home = new int[vars];
        for (int v = 0; v < vars; v++) {
            home[v] = r.nextInt(scopes.size());
            line(s, "var", name('v', v), name('s', home[v]), name('t', r.nextInt(types)));
        }
        int wheres = r.nextInt(8) == 0 ? in(15, 17) : in(0, 10);
        List<int[]> all = new ArrayList<>();
        for (int t = 0; t < 300 && all.size() < wheres; t++) {
            int v = r.nextInt(vars);
            int[] h = scopes.get(home[v]);
            if (h[0] >= h[1]) {
                continue;
            }
            int from = in(h[0], h[1] - 1);
            int to = r.nextInt(3) == 0 ? h[1] : in(from + 1, h[1]);
            boolean fits = true;
            for (int[] o : all) {
                fits &= o[0] != v || to <= o[1] || o[2] <= from;
            }
            if (fits || r.nextInt(500) == 0) {
                line(s, "where", name('v', v), from, to, expr());
                all.add(new int[] {v, from, to});
            }
        }
    }

    private String expr() {
        if (r.nextInt(6) == 0) {
            return "in " + in(0, 7);
        }
        StringBuilder s = new StringBuilder();
        int high = 0;
        int ops = r.nextInt(10) == 0 ? in(7, 9) : in(1, 6);
        for (int i = 0; i < ops; i++) {
            String op = high < 1 || r.nextInt(3) == 0 ? one("reg", "n", "n")
                : high < 2 ? one("load", "dup", "n", "reg", "n") : one("plus", "minus", "times", "swap", "load", "dup");
            high += op.equals("n") || op.equals("reg") || op.equals("dup") ? 1 : op.equals("load") || op.equals("swap") ? 0 : -1;
            s.append(op.equals("n") ? "" + (r.nextInt(4) == 0 ? in(0, 999) : in(0, 70)) : op.equals("reg") ? "reg " + in(0, 7) : op);
            s.append(' ');
        }
        return s.append(one("", "value", "value")).toString();
    }

    String book() {
        StringBuilder s = new StringBuilder();
        int lines = r.nextInt(10) == 0 ? in(38, 42) : in(0, 6);
        for (int i = 0; i < lines; i++) {
            switch (r.nextInt(8)) {
                case 0 -> line(s, "set", in(0, 7), in(0, 999));
                case 1 -> line(s, "poke", in(0, 63), in(0, 999));
                case 2 -> line(s, "go", r.nextInt(4) == 0 ? in(0, 300) : in(0, 30));
                case 3 -> line(s, one("stop", "clear"), in(1, 250));
                case 4 -> line(s, "leave");
                case 5 -> line(s, "run");
                default -> line(s, "step");
            }
        }
        return s.toString();
    }

    String sentence() {
        StringBuilder s = new StringBuilder();
        cond(s, r.nextInt(6) == 0 ? 9 : in(0, 4));
        return s.toString();
    }

    private void cond(StringBuilder s, int deep) {
        int many = r.nextInt(3) == 0 ? in(2, 4) : 1;
        for (int i = 0; i < many; i++) {
            s.append(i == 0 ? "" : one(" and ", " or "));
            ones(s, deep);
        }
    }

    private void ones(StringBuilder s, int deep) {
        int kind = deep > 0 ? r.nextInt(deep > 4 ? 3 : 9) : 3 + r.nextInt(6);
        if (kind == 0) {
            s.append("not ");
            ones(s, deep - 1);
        } else if (kind <= 2) {
            s.append("(");
            cond(s, deep - 1);
            s.append(")");
        } else if (kind <= 4) {
            s.append(one("there", "local", "signed"));
        } else if (kind == 5) {
            s.append("within ").append(name('s', in(0, 5)));
        } else {
            s.append(one("bits", "places", "value", "number")).append(one("", " ")).append(one("<", "=", ">")).append(one("", " "));
            s.append(r.nextInt(3) == 0 ? in(0, 20) : r.nextInt(3) == 0 ? in(0, 999) : in(0, 4));
        }
    }

    int[] program() {
        int[] p = new int[in(0, 60)];
        for (int i = 0; i < p.length; i++) {
            int k = r.nextInt(24);
            p[i] = k < 4 ? k + 1 : k < 5 ? in(0, 9) : k < 6 ? in(0, 255) : in(10, 45);
        }
        if (p.length > 0 && r.nextBoolean()) {
            p[p.length - 1] = 0;
        }
        return p;
    }
}
