import java.lang.management.ManagementFactory;
import java.util.Random;

/** What a run makes in memory, and that no call throws another exception, whatever its arguments. */
public final class RoomTests {
    private static final int[] EDGES = {Integer.MIN_VALUE, Integer.MIN_VALUE + 1, -65536, -1000, -256, -2, -1, 0, 1, 2, 7, 8, 9, 10, 15, 16,
        30, 31, 59, 60, 61, 63, 64, 200, 250, 251, 255, 256, 400, 900, 940, 941, 65535, 65536, Integer.MAX_VALUE - 1, Integer.MAX_VALUE};
    private static final String CODE = "size 40;row 0 10;row 30 200;row 20 100;scope a 0 40 1;scope b 10 20 2;type t 0 16 signed;"
        + "var v a t;var w b t;where v 0 39 reg 1 load dup times value;where w 10 20 1 2 3 4 5 6 7 8;";

    private RoomTests() {
    }

    public static void main(String[] args) {
        wild();
        // the first run also loads what the machine itself needs
        made();
        long[] made = made();
        System.out.println("bytes made by a constructor: " + made[0] + ", by 500 calls: " + made[1]);
        Bench.due("a constructor makes little: " + made[0], made[0] < 60000, true);
        Bench.due("calls make nothing: " + made[1], made[1] < 2000, true);
        Bench.finish("RoomTests");
    }

    private static long bytes() {
        return ((com.sun.management.ThreadMXBean) ManagementFactory.getThreadMXBean()).getCurrentThreadAllocatedBytes();
    }

    private static long[] made() {
        int[] text = CODE.chars().toArray();
        int[] book = "stop 200;run;go 0;".repeat(10).chars().toArray();
        int[] sentence = "not (there or within b) and value < 3 or bits = 16".chars().toArray();
        long before = bytes();
        CodePlaces x = new CodePlaces();
        long between = bytes();
        Bench.tape(x, text);
        x.unit();
        for (int i = 0; i < 50; i++) {
            Bench.tape(x, book);
            x.book(i % 2);
            Bench.tape(x, sentence);
            x.sentence();
            x.said(0);
            x.drawn(60, i);
            x.odds(1, 30, i);
            x.packed();
            x.tag(0);
            x.chain(15);
            x.longest();
            x.image(i % 2);
            x.restore(i % 2);
            x.undo();
            x.now(4);
        }
        return new long[] {between - before, bytes() - between};
    }

    private static void wild() {
        Random r = new Random(1);
        int calls = 0;
        for (int run = 0; run < 3000; run++) {
            CodePlaces x = run % 3 == 0 ? new CodePlaces() : Bench.unit(CODE);
            for (int i = 0; i < 60; i++) {
                call(x, r);
                calls++;
            }
        }
        Bench.due("wild calls", calls, 180000);
    }

    private static int edge(Random r) {
        return r.nextInt(3) == 0 ? r.nextInt(40) - 1 : EDGES[r.nextInt(EDGES.length)];
    }

    private static void call(CodePlaces x, Random r) {
        int a = edge(r);
        int b = edge(r);
        int c = edge(r);
        switch (r.nextInt(44)) {
            case 0 -> x.feed(a, b, c, a * 31, b * 77);
            case 1 -> x.end(a);
            case 2 -> x.unit();
            case 3 -> x.fault();
            case 4 -> x.row(a, b);
            case 5 -> x.scope(a, b);
            case 6 -> x.var(a, b);
            case 7 -> x.placeOf(a, b);
            case 8 -> x.lineAt(a);
            case 9 -> x.addressOf(a, b);
            case 10 -> x.chain(a);
            case 11 -> x.chainAt(a);
            case 12 -> x.chainLine(a);
            case 13 -> Bench.answer(() -> x.value(a, b));
            case 14 -> x.why(a, b);
            case 15 -> x.now(a);
            case 16 -> x.register(a);
            case 17 -> x.memory(a);
            case 18 -> x.set(a, b);
            case 19 -> x.poke(a, b);
            case 20 -> x.go(a);
            case 21 -> x.stop(a);
            case 22 -> x.clear(a);
            case 23 -> x.step();
            case 24 -> x.leave();
            case 25 -> x.run();
            case 26 -> x.undo();
            case 27 -> x.packed();
            case 28 -> x.packedAt(a);
            case 29 -> x.unpacked();
            case 30 -> x.unpackedAt(a, b);
            case 31 -> Bench.answer(() -> x.cover(a, b));
            case 32 -> x.longest();
            case 33 -> x.tag(a);
            case 34 -> x.byteAt(a);
            case 35 -> x.drawn(a, b);
            case 36 -> x.odds(a, b, c);
            case 37 -> x.book(a);
            case 38 -> x.told(a);
            case 39 -> x.sentence();
            case 40 -> x.said(a);
            case 41 -> x.image(a);
            case 42 -> x.restore(a);
            default -> x.count(a);
        }
    }
}
