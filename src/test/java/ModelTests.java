import java.util.Random;

/** Random runs, each call's answer compared with that of Model. */
public final class ModelTests {
    private final CodePlaces x = new CodePlaces();
    private final Model m = new Model();
    private final Random r;
    private final Texts texts;
    private final int run;

    private ModelTests(int run) {
        this.run = run;
        this.r = new Random(run);
        this.texts = new Texts(r);
    }

    public static void main(String[] args) {
        int runs = args.length > 0 ? Integer.parseInt(args[0]) : 1500;
        for (int i = 0; i < runs; i++) {
            new ModelTests(i).play(i % 5 == 0 ? 300 : 90);
        }
        Bench.finish("ModelTests");
    }

    private void due(String call, long got, long want) {
        Bench.due("run " + run + ": " + call, got, want);
    }

    private void due(String call, boolean got, boolean want) {
        Bench.due("run " + run + ": " + call, got, want);
    }

    private int any(int least, int most) {
        int k = r.nextInt(40);
        return k == 0 ? least - 1 : k == 1 ? most + 1 : k == 2 ? r.nextInt() : least + r.nextInt(most - least + 1);
    }

    private void tape(int[] bytes) {
        if (r.nextInt(30) > 0) {
            due("end(0)", x.end(0), m.end(0));
        }
        int begins = x.count(6);
        for (int at = 0; at < bytes.length; at += 20) {
            int[] w = new int[5];
            for (int i = 0; i < 5; i++) {
                w[i] = Bench.word(bytes, at + 4 * i);
            }
            due("feed", x.feed(w[0], w[1], w[2], w[3], w[4]), m.feed(w));
        }
        due("end", x.end(begins + bytes.length), m.end(begins + bytes.length));
    }

    private void tape(String text) {
        tape(text.chars().toArray());
    }

    private void play(int calls) {
        unit();
        for (int i = 0; i < calls; i++) {
            act();
            if (r.nextInt(4) == 0) {
                look();
            }
        }
    }

    private void unit() {
        String text = texts.unit();
        if (r.nextInt(40) == 0) {
            text += " ".repeat(Math.max(0, texts.in(880, 930) - text.length()));
        }
        text = texts.spoil(text);
        tape(text);
        due("unit " + text, x.unit(), m.unit());
        due("fault of unit " + text, x.fault(), m.fault());
    }

    private void act() {
        int a = any(0, 255);
        int v = any(0, 9);
        int k = any(0, 7);
        int line = any(1, 250);
        switch (r.nextInt(34)) {
            case 0 -> {
                int n = any(0, r.nextBoolean() ? 65535 : 70);
                due("set", x.set(k, n), m.set(k, n));
            }
            case 1 -> {
                int p = any(0, 63);
                int n = any(0, r.nextBoolean() ? 65535 : 70);
                due("poke", x.poke(p, n), m.poke(p, n));
            }
            case 2, 3 -> {
                int g = any(0, Math.max(0, x.count(0) - 1));
                due("go", x.go(g), m.go(g));
            }
            case 4, 5 -> {
                int l = r.nextBoolean() ? line : x.row(any(0, 9), 1);
                due("stop", x.stop(l), m.stop(l));
            }
            case 6 -> {
                int l = r.nextBoolean() ? line : x.row(any(0, 9), 1);
                due("clear", x.clear(l), m.clear(l));
            }
            case 7, 8 -> due("step", x.step(), m.deed("step", 0, 0));
            case 9 -> due("leave", x.leave(), m.deed("leave", 0, 0));
            case 10 -> due("run", x.run(), m.deed("run", 0, 0));
            case 11, 12 -> due("undo", x.undo(), m.undo());
            case 13 -> packed();
            case 14 -> unpacked();
            case 15 -> {
                int n = any(1, 60);
                int seed = r.nextInt();
                due("drawn", x.drawn(n, seed), m.drawn(n, seed));
            }
            case 16 -> {
                int n = any(1, 30);
                int seed = r.nextInt(4) == 0 ? Integer.MAX_VALUE - 3 : r.nextInt();
                due("odds", x.odds(v, n, seed), m.odds(v, n, seed));
            }
            case 17, 18, 19 -> book();
            case 20, 21, 22 -> sentence();
            case 23, 24 -> {
                if (r.nextInt(4) == 0) {
                    unit();
                }
            }
            case 25 -> {
                int i = any(0, 1);
                due("image", x.image(i), m.image(i));
            }
            case 26 -> {
                int i = any(0, 1);
                if (r.nextInt(3) == 0) {
                    due("restore", x.restore(i), m.restore(i));
                }
            }
            case 27 -> due("chain", x.chain(a), m.chain(a));
            case 28 -> tag();
            case 29 -> said();
            case 30 -> {
                due("end", x.end(a - 10), m.end(a - 10));
                due("feed", x.feed(a, line, v, k, -1), m.feed(a, line, v, k, -1));
            }
            default -> {
                int lives = any(2, 5);
                due("book", x.book(lives), m.book(lives));
            }
        }
        due("fault", x.fault(), m.fault());
    }

    private void packed() {
        due("packed", x.packed(), m.packed());
        for (int i = -1; i <= x.packed(); i++) {
            due("packedAt " + i, x.packedAt(i), m.packedAt(i));
        }
    }

    private void unpacked() {
        int[] bytes = texts.program();
        if (r.nextInt(3) == 0) {
            bytes = new int[Math.max(0, m.packed())];
            x.packed();
            for (int i = 0; i < bytes.length; i++) {
                bytes[i] = m.packedAt(i);
            }
            if (bytes.length > 0 && r.nextInt(4) == 0) {
                bytes[r.nextInt(bytes.length)] = r.nextInt(256);
            }
        }
        tape(bytes);
        due("unpacked", x.unpacked(), m.unpacked());
    }

    private void book() {
        String text = texts.spoil(texts.book());
        tape(text);
        int lives = r.nextInt(2);
        due("book " + text, x.book(lives), m.book(lives));
        due("fault of book " + text, x.fault(), m.fault());
    }

    private void sentence() {
        String text = texts.spoil(texts.sentence());
        tape(text);
        due("sentence " + text, x.sentence(), m.sentence());
        due("fault of sentence " + text, x.fault(), m.fault());
        said();
    }

    private void said() {
        for (int i = -2; i <= 10; i++) {
            due("said " + i, x.said(i), m.said(i));
        }
    }

    private void tag() {
        int v = any(0, 9);
        due("tag " + v, x.tag(v), m.tag(v));
    }

    private void look() {
        for (int i = -1; i <= 7; i++) {
            due("now " + i, x.now(i), m.now(i));
            due("count " + i, x.count(i), m.count(i));
            due("told " + i, x.told(i), m.told(i));
        }
        int k = any(0, 10);
        int a = any(0, Math.max(0, x.count(0) - 1));
        int what = any(0, 5);
        due("row", x.row(k, what), m.row(k, what));
        due("scope", x.scope(k, what), m.scope(k, what));
        due("var", x.var(k, what), m.var(k, what));
        due("placeOf", x.placeOf(k, a), m.placeOf(k, a));
        due("lineAt", x.lineAt(a), m.lineAt(a));
        int line = x.row(any(0, 9), 1);
        due("addressOf", x.addressOf(line, what), m.addressOf(line, what));
        due("chainAt", x.chainAt(k), m.chainAt(k));
        due("chainLine", x.chainLine(k), m.chainLine(k));
        due("value", Bench.answer(() -> x.value(k, a)), Bench.answer(() -> m.value(k, a)));
        due("why", x.why(k, a), m.why(k, a));
        due("register", x.register(k), m.register(k));
        due("memory", x.memory(a), m.memory(a));
        due("packedAt", x.packedAt(k), m.packedAt(k));
        due("unpackedAt", x.unpackedAt(k, what), m.unpackedAt(k, what));
        due("cover", Bench.answer(() -> x.cover(k, what)), Bench.answer(() -> m.cover(k, what)));
        due("longest", x.longest(), m.longest());
        due("byteAt", x.byteAt(k), m.byteAt(k));
    }
}
