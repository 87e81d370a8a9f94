/**
 * The tape, the UNIT, the machine, undo and images at their edges; what is refused changes nothing.
 */
public final class StateEdgeTests {
    private static final int NONE = CodePlaces.NONE;
    private static final int MIN = Integer.MIN_VALUE;
    private static final int MAX = Integer.MAX_VALUE;
    private static final String CODE = "size 40;row 0 10;row 4 11;row 10 20;row 14 21;row 20 12;row 30 10;"
        + "scope main 0 40 0;scope inl 10 20 11;scope deep 14 18 20;"
        + "type word 0 16 plain;type byte 4 8 plain;type low 0 4 signed;"
        + "var a main word;var b inl byte;var c deep low;"
        + "where a 0 10 in 2;where a 10 30 reg 3 5 plus;where b 10 14 7 reg 1 times value;where b 14 20 reg 0 load load;where c 14 16 3;";
    private static final Call NOTHING = x -> 0;

    /** A call and what it answers; true is 1. */
    private interface Call {
        int on(CodePlaces x);
    }

    private StateEdgeTests() {
    }

    public static void main(String[] args) {
        newObject();
        tape();
        reading();
        refused();
        refusedThere();
        refusedTexts();
        texts();
        newUnit();
        rowEdges();
        setAndPoke();
        stops();
        steps();
        leaves();
        runs();
        deedCounts();
        undoOfEach();
        undoOfEight();
        undoOfNothing();
        images();
        Bench.finish("StateEdgeTests");
    }

    private static int is(boolean b) {
        return b ? 1 : 0;
    }

    private static void due(String call, long got, long want) {
        Bench.due(call, got, want);
    }

    /** A UNIT with something of each kind told last, deeds that can be undone, an image, a FAULT and a text on the tape. */
    private static CodePlaces prepared() {
        CodePlaces x = Bench.unit(CODE);
        Bench.tape(x, 26, 38, 0);
        due("prepared: unpacked", x.unpacked(), 2);
        due("prepared: packed", x.packed(), 16);
        x.set(1, 5);
        x.poke(3, 9);
        x.stop(20);
        x.go(15);
        due("prepared: chain", x.chain(15), 3);
        due("prepared: tag", x.tag(2), 15);
        due("prepared: book", Bench.book(x, "set 2 2;set 2 2;", 0), 1);
        due("prepared: sentence", Bench.sentence(x, "there and number>0"), 2);
        due("prepared: FAULT", Bench.book(x, "set 9 1;", 1), -6);
        x.image(0);
        x.set(2, 7);
        Bench.tape(x, "row 5 5;");
        return x;
    }

    private static Dump before(Call setup) {
        CodePlaces x = prepared();
        setup.on(x);
        return Dump.of(x);
    }

    private static void untouched(String name, Call setup, Call call, int want) {
        CodePlaces x = prepared();
        setup.on(x);
        due(name, call.on(x), want);
        Dump.of(x).same(name, before(setup));
    }

    private static void untouched(String name, Call call, int want) {
        untouched(name, NOTHING, call, want);
    }

    /** A text that is taken from the tape, and changes nothing else but what is named. */
    private static void taken(String name, Call call, int want, int[] bytes, String... but) {
        CodePlaces x = prepared();
        x.end(0);
        Bench.tape(x, bytes);
        due(name, call.on(x), want);
        due(name + ": the tape is empty", x.count(6), 0);
        Dump.of(x).same(name, before(y -> is(y.end(0))), but);
    }

    private static void taken(String name, Call call, int want, String text, String... but) {
        taken(name + " of " + text, call, want, text.chars().toArray(), but);
    }

    // ---- 1: "A UNIT without LINES; an empty tape." and "ahead of any" ----

    private static void newObject() {
        CodePlaces x = new CodePlaces();
        int[] counts = {256, 0, 0, 0, 0, 0, 0};
        for (int i = 0; i < 7; i++) {
            due("new count " + i, x.count(i), counts[i]);
        }
        int[] now = {0, NONE, 0, NONE, 0, 0};
        for (int i = 0; i < 6; i++) {
            due("new now " + i, x.now(i), now[i]);
        }
        for (int i = 0; i < 8; i++) {
            due("new register " + i, x.register(i), 0);
        }
        for (int i = 0; i < 64; i++) {
            due("new memory " + i, x.memory(i), 0);
        }
        for (int i = 0; i < 4; i++) {
            due("new told " + i, x.told(i), NONE);
            due("new row " + i, x.row(0, i), NONE);
            due("new scope " + i, x.scope(0, i), NONE);
            due("new var " + i, x.var(0, i), NONE);
        }
        int[] none = {x.chainAt(0), x.chainLine(0), x.packedAt(0), x.unpackedAt(0, 0), x.unpackedAt(0, 1), x.byteAt(0), x.said(NONE), x.said(0),
            x.placeOf(0, 0), x.lineAt(0), x.lineAt(255), x.addressOf(1, 0), x.why(0, 0), x.longest(), x.tag(0), x.odds(0, 1, 0), x.undo(),
            x.chain(256)};
        for (int i = 0; i < none.length; i++) {
            due("new NONE " + i, none[i], NONE);
        }
        due("new fault", x.fault(), 0);
        due("new chain", x.chain(255), 0);
        due("new restore 0", is(x.restore(0)), 0);
        due("new restore 1", is(x.restore(1)), 0);
        due("new value", Bench.answer(() -> x.value(0, 0)), Bench.THROWN);
        due("new cover", Bench.answer(() -> x.cover(0, 0)), Bench.THROWN);
        due("new set so", x.set(0, 0), 1);
        due("new poke so", x.poke(63, 0), 1);
        due("new go", x.go(0), 1);
        due("new clear", x.clear(250), 1);
        due("new step, leave, run", x.step() + 10 * x.leave() + 100 * x.run(), 111);
        due("new packed", x.packed(), 1);
        due("new unit", x.unit(), 0);
    }

    // ---- 2, 3: "NONE, and none come, if it would have more than 940", "false, if it has not so many, or n is below 0" ----

    private static void tape() {
        CodePlaces x = new CodePlaces();
        due("end 0 of an empty tape", is(x.end(0)), 1);
        due("end 1 of an empty tape", is(x.end(1)), 0);
        for (int i = 1; i <= 47; i++) {
            due("feed", x.feed(i, i, i, i, i), 20 * i);
        }
        for (int n : new int[] {940, 939, 930, 921}) {
            due("end " + n, is(x.end(n)), 1);
            due("feed behind " + n, x.feed(MAX, MAX, MAX, MAX, MAX), NONE);
            due("none come", x.count(6), n);
            due("end above", is(x.end(n + 1)), 0);
            due("end -1", is(x.end(-1)), 0);
            due("end MIN", is(x.end(MIN)), 0);
            due("end MAX", is(x.end(MAX)), 0);
            due("the tape is", x.count(6), n);
        }
        due("end 920", is(x.end(920)), 1);
        due("feed behind 920", x.feed(1, 2, 3, 4, 5), 940);
        due("end 0", is(x.end(0)), 1);
        due("the tape is", x.count(6), 0);
        // the highest byte first, of each of the five: rows at 1, 2, .. 20
        int one = 0x1a1a1a1a;
        due("feed", x.feed(one, one, one, one, one), 20);
        due("feed", x.feed(0, 0, 0, 0, 0), 40);
        due("end", is(x.end(21)), 1);
        due("20 rows", x.unpacked(), 20);
        x.feed(0x726f7720, 0x3120323b, 0x726f7720, 0x33343520, 0x3b000000);
        due("end", is(x.end(8)), 1);
        due("the first LINE alone", x.unit(), 1);
        due("its ADDRESS", x.row(0, 0), 1);
        due("its line", x.row(0, 1), 2);
        // what was cut off does not come back
        x.feed(0x726f7720, 0x3120323b, 0x726f7720, 0x3420353b, 0x20202020);
        x.end(7);
        x.feed(0x3b202020, 0x20202020, 0x20202020, 0x20202020, 0x20202020);
        due("one LINE of two", x.unit(), 1);
        // bytes from 128 on are not below 0
        x.feed(-1, -1, -1, -1, -1);
        x.end(2);
        due("255 255 has no end", x.unpacked(), -1 - 2);
        x.feed(0x02ff0100, -1, -1, -1, -1);
        x.end(4);
        due("2 255 1 0", x.unpacked(), 1);
        due("its ADDRESS", x.unpackedAt(0, 0), 255);
    }

    // ---- 6 to 18, 29 to 45: reading calls change nothing, and beside what there is they are NONE ----

    private static void reading() {
        for (int w : new int[] {MIN, -2, -1, 1000, MAX}) {
            readBeside(w);
        }
        CodePlaces x = prepared();
        // the first that there is not
        int[] none = {x.row(6, 0), x.row(0, 3), x.scope(3, 0), x.scope(0, 5), x.var(3, 0), x.var(0, 6), x.placeOf(3, 0), x.placeOf(0, 40),
            x.lineAt(40), x.addressOf(10, 2), x.addressOf(13, 0), x.chain(40), x.chainAt(3), x.chainLine(3), x.why(3, 0), x.why(0, 40), x.now(6),
            x.register(8), x.memory(64), x.packedAt(16), x.unpackedAt(2, 0), x.unpackedAt(0, 2), x.tag(3), x.byteAt(15), x.odds(3, 1, 1),
            x.odds(0, 31, 1), x.odds(0, 0, 1), x.drawn(0, 1), x.drawn(61, 1), x.told(4), x.count(7), x.said(2)};
        for (int i = 0; i < none.length; i++) {
            due("NONE behind the last " + i, none[i], NONE);
        }
        for (int what = -1; what <= 6; what++) {
            due("row 6 " + what, x.row(6, what), NONE);
            due("scope 3 " + what, x.scope(3, what), NONE);
            due("var 3 " + what, x.var(3, what), NONE);
            due("unpackedAt 2 " + what, x.unpackedAt(2, what), NONE);
        }
        // the last that there is
        int[] last = {x.row(5, 2), x.scope(2, 4), x.var(2, 5), x.placeOf(2, 15), x.lineAt(39), x.addressOf(10, 1), x.chainAt(2), x.chainLine(2),
            x.why(2, 39), x.now(5), x.register(7), x.memory(63), x.packedAt(15), x.unpackedAt(1, 1), x.byteAt(14), x.told(3), x.count(6),
            x.said(1), x.said(NONE), x.fault(), x.longest()};
        int[] want = {10, 4, 1, 4, 10, 30, 0, 11, 1, 5, 0, 0, 0, 1, 'p', 7, 8, 2, 2, 2, 10};
        for (int i = 0; i < last.length; i++) {
            due("the last one " + i, last[i], want[i]);
        }
        Dump.of(x).same("reading", before(NOTHING));
    }

    private static void readBeside(int w) {
        CodePlaces x = prepared();
        int[] none = {x.row(w, 0), x.row(0, w), x.scope(w, 0), x.scope(0, w), x.var(w, 0), x.var(0, w), x.placeOf(w, 0), x.placeOf(0, w),
            x.lineAt(w), x.addressOf(w, 0), x.addressOf(10, w), x.chain(w), x.chainAt(w), x.chainLine(w), x.why(w, 0), x.why(0, w),
            x.now(w), x.register(w), x.memory(w), x.packedAt(w), x.unpackedAt(w, 0), x.unpackedAt(0, w), x.tag(w), x.byteAt(w),
            x.odds(w, 1, 1), x.odds(0, w, 1), x.drawn(w, 1), x.told(w), x.count(w), w == -1 ? NONE : x.said(w)};
        for (int i = 0; i < none.length; i++) {
            due("NONE " + i + " of " + w, none[i], NONE);
        }
        for (int what = -1; what <= 6; what++) {
            due("row " + w + " " + what, x.row(w, what), NONE);
            due("scope " + w + " " + what, x.scope(w, what), NONE);
            due("var " + w + " " + what, x.var(w, what), NONE);
            due("unpackedAt " + w + " " + what, x.unpackedAt(w, what), NONE);
        }
        due("value of VAR " + w, Bench.answer(() -> x.value(w, 0)), Bench.THROWN);
        due("value at " + w, Bench.answer(() -> x.value(0, w)), Bench.THROWN);
        due("cover of VAR " + w, Bench.answer(() -> x.cover(w, 0)), Bench.THROWN);
        due("cover what " + w, Bench.answer(() -> x.cover(0, w)), Bench.THROWN);
        Dump.of(x).same("reading beside " + w, before(NOTHING));
    }

    // ---- what is not as told changes nothing: 18 to 24, 28, 37 to 39, 43, 44; nor what throws: 15, 33 ----

    private static void refused() {
        int[] odd = {MIN, -1, 65536, MAX};
        for (int n : odd) {
            untouched("set 0 to " + n, x -> x.set(0, n), NONE);
            untouched("poke 0 to " + n, x -> x.poke(0, n), NONE);
            untouched("set " + n, x -> x.set(n, 1), NONE);
            untouched("poke " + n, x -> x.poke(n, 1), NONE);
            untouched("go " + n, x -> x.go(n), NONE);
            untouched("stop " + n, x -> x.stop(n), NONE);
            untouched("clear " + n, x -> x.clear(n), NONE);
            untouched("end " + n, x -> is(x.end(n)), 0);
            untouched("image " + n, x -> is(x.image(n)), 0);
            untouched("restore " + n, x -> is(x.restore(n)), 0);
            untouched("book " + n, x -> x.book(n), -1000);
            untouched("drawn " + n, x -> x.drawn(n, 1), NONE);
            untouched("odds " + n, x -> x.odds(0, n, 1), NONE);
            untouched("odds of " + n, x -> x.odds(n, 1, 1), NONE);
        }
        untouched("set 8", x -> x.set(8, 1), NONE);
        untouched("set so", x -> x.set(1, 5), 1);
        untouched("set so at first", x -> x.set(7, 0), 1);
        untouched("poke 64", x -> x.poke(64, 1), NONE);
        untouched("poke so", x -> x.poke(3, 9), 1);
        untouched("go 40", x -> x.go(40), NONE);
        untouched("go there", x -> x.go(15), 1);
        untouched("stop 0", x -> x.stop(0), NONE);
        untouched("stop 251", x -> x.stop(251), NONE);
        untouched("stop again", x -> x.stop(20), 1);
        untouched("clear 0", x -> x.clear(0), NONE);
        untouched("clear 251", x -> x.clear(251), NONE);
        untouched("clear none", x -> x.clear(21), 1);
        untouched("end behind", x -> is(x.end(9)), 0);
        untouched("image 2", x -> is(x.image(2)), 0);
        untouched("restore 2", x -> is(x.restore(2)), 0);
        untouched("restore of none kept", x -> is(x.restore(1)), 0);
        untouched("book 2", x -> x.book(2), -1000);
        untouched("drawn 0", x -> x.drawn(0, 1), NONE);
        untouched("drawn 61", x -> x.drawn(61, 1), NONE);
        untouched("odds 0", x -> x.odds(0, 0, 1), NONE);
        untouched("odds 31", x -> x.odds(0, 31, 1), NONE);
        untouched("odds of VAR 3", x -> x.odds(3, 1, 1), NONE);
        untouched("odds do nothing", x -> Math.min(0, x.odds(0, 30, 7)), 0);
        untouched("chain 40", x -> x.chain(40), NONE);
        untouched("tag 3", x -> x.tag(3), NONE);
        untouched("value of VAR 3", x -> Bench.answer(() -> x.value(3, 0)), Bench.THROWN);
        untouched("value that is out", x -> Bench.answer(() -> x.value(0, 30)), Bench.THROWN);
        untouched("value at 40", x -> Bench.answer(() -> x.value(0, 40)), Bench.THROWN);
        untouched("cover of VAR 3", x -> Bench.answer(() -> x.cover(3, 0)), Bench.THROWN);
        untouched("cover what 2", x -> Bench.answer(() -> x.cover(0, 2)), Bench.THROWN);
        untouched("packed does nothing but itself", x -> x.packed(), 16);
        untouched("chain again", x -> x.chain(15), 3);
        untouched("tag again", x -> x.tag(2), 15);
    }

    /** Refused by how the machine or the tape is. */
    private static void refusedThere() {
        untouched("step of none", x -> x.go(35), CodePlaces::step, 1);
        untouched("leave to no ADDRESS", x -> x.go(35), CodePlaces::leave, 2);
        untouched("run without stops", x -> x.clear(20), CodePlaces::run, 1);
        untouched("run with none ahead", CodePlaces::run, 1);
        untouched("a ninth stop", StateEdgeTests::eightStops, x -> x.stop(9), 2);
        untouched("an eighth stop again", StateEdgeTests::eightStops, x -> x.stop(7), 1);
        untouched("undo of none", StateEdgeTests::undoAll, CodePlaces::undo, NONE);
        untouched("a full tape", StateEdgeTests::fullTape, x -> x.feed(1, 2, 3, 4, 5), NONE);
        Call alone = x -> {
            Bench.tape(endAll(x), "size 1;");
            return x.unit();
        };
        untouched("go in a UNIT of one ADDRESS", alone, x -> x.go(1), NONE);
        untouched("leave none", alone, CodePlaces::leave, 1);
        untouched("a draw that does nothing", alone, x -> x.drawn(1, seedOf(3)), 0);
    }

    private static int eightStops(CodePlaces x) {
        for (int i = 1; i <= 7; i++) {
            due("stop " + i, x.stop(i), 0);
        }
        return x.now(2);
    }

    private static int undoAll(CodePlaces x) {
        for (int i = 4; i >= 0; i--) {
            due("undo to " + i, x.undo(), i);
        }
        return 0;
    }

    private static int fullTape(CodePlaces x) {
        int many = 0;
        for (int i = 0; i < 46; i++) {
            many = x.feed(0x20202020, 0x20202020, 0x20202020, 0x20202020, 0x20202020);
        }
        due("46 feeds behind 8 bytes", many, 928);
        return many;
    }

    /** A seed whose first draw of 8 is that. */
    private static int seedOf(int first) {
        for (int seed = 0; seed < 1000; seed++) {
            if ((seed * 1103515245 + 12345 >>> 8) % 8 == first) {
                return seed;
            }
        }
        return 0;
    }

    // ---- 4, 31, 39, 41: "The tape (empty then, with a FAULT, too ..)", "it stays", "all staying as it is" ----

    private static void refusedTexts() {
        taken("unit", CodePlaces::unit, -7, "row 0 0;", "fault");
        taken("unit", CodePlaces::unit, -9, "row 0 1;size 5;row 1 1;", "fault");
        taken("unit", CodePlaces::unit, -901, " ".repeat(901), "fault");
        taken("sentence", CodePlaces::sentence, -1, "", "fault");
        taken("sentence", CodePlaces::sentence, -9, "there or", "fault");
        taken("sentence", CodePlaces::sentence, -8, "within nobody", "fault");
        taken("book 0", x -> x.book(0), -7, "step;x", "fault");
        taken("book 1", x -> x.book(1), -7, "step;x", "fault");
        taken("book 1", x -> x.book(1), -202, "step;".repeat(41), "fault");
        taken("unpacked", CodePlaces::unpacked, -1, new int[0]);
        taken("unpacked 5", CodePlaces::unpacked, -1, new int[] {5});
        taken("unpacked 1 0 0", CodePlaces::unpacked, -3, new int[] {1, 0, 0});
    }

    private static void texts() {
        taken("book 0", x -> x.book(0), NONE, "step;set 1 9;", "fault", "told");
        taken("book 0", x -> x.book(0), 1, "step;go 999;step;", "fault", "told");
        taken("book 0", x -> x.book(0), NONE, "", "fault", "told");
        taken("book 1", x -> x.book(1), NONE, "", "fault", "told");
        taken("book 1", x -> x.book(1), 0, "go 15;step;", "fault", "told");
        taken("unpacked 0", CodePlaces::unpacked, 0, new int[] {0}, "unpackedAt");
        taken("unpacked 1 0", CodePlaces::unpacked, 1, new int[] {1, 0}, "unpackedAt");
        taken("sentence", CodePlaces::sentence, 1, "local", "fault", "said");
        CodePlaces x = prepared();
        due("tape is there", x.count(6), 8);
        due("fault is there", x.fault(), 2);
        due("book 2 leaves the tape and the fault", x.book(2), -1000);
        due("tape is there", x.count(6), 8);
        due("fault is there", x.fault(), 2);
        due("unit", x.unit(), 1);
        due("no fault", x.fault(), 0);
        due("tape is empty", x.count(6), 0);
        due("empty unit", x.unit(), 0);
        due("no rows", x.count(1), 0);
        due("empty book", x.book(1), NONE);
        due("told 0", x.told(0), 0);
        due("told 1", x.told(1), 0);
        due("told 2", x.told(2), 0);
        due("told 3", x.told(3), 0);
        due("empty sentence", x.sentence(), -1);
        due("its fault", x.fault(), 1);
        due("unpacked leaves the fault", x.unpacked(), -1);
        due("fault", x.fault(), 1);
        due("empty book again", x.book(0), NONE);
        due("no fault", x.fault(), 0);
        // each of the three ends the FAULT of each other
        due("book with a FAULT", Bench.book(x, "set 8 1;", 0), -6);
        due("fault", x.fault(), 2);
        due("sentence", Bench.sentence(x, "there"), 1);
        due("no fault", x.fault(), 0);
        due("sentence with a FAULT", Bench.sentence(x, "within s"), -8);
        due("fault", x.fault(), 3);
        due("unit", x.unit(), 0);
        due("no fault", x.fault(), 0);
        Bench.tape(x, "where");
        due("unit with a FAULT", x.unit(), -6);
        due("fault", x.fault(), 1);
        due("sentence", Bench.sentence(x, "there"), 1);
        due("no fault", x.fault(), 0);
    }

    // ---- "A new UNIT: the machine as at first, no SENTENCE; nothing can be undone (what other calls told last stays)" ----

    private static void newUnit() {
        CodePlaces x = prepared();
        for (int k = 0; k < 8; k++) {
            x.set(k, 9);
        }
        x.poke(0, 9);
        x.poke(63, 9);
        due("unit", x.unit(), 1);
        Dump.of(x).same("a new UNIT", before(NOTHING), "fault", "count", "row", "scope", "var", "placeOf", "why", "value", "longest",
            "addressOf", "now", "register", "memory", "said", "undo", "clear", "tape");
        x = prepared();
        for (int k = 0; k < 8; k++) {
            x.set(k, 9);
        }
        x.poke(0, 9);
        x.poke(63, 9);
        x.unit();
        for (int k = 0; k < 8; k++) {
            due("register as at first " + k, x.register(k), 0);
        }
        for (int a = 0; a < 64; a++) {
            due("memory as at first " + a, x.memory(a), 0);
        }
        int[] now = {0, NONE, 0, NONE, 0, 0};
        for (int i = 0; i < 6; i++) {
            due("now as at first " + i, x.now(i), now[i]);
        }
        due("no SENTENCE", x.said(NONE), NONE);
        due("nothing can be undone", x.undo(), NONE);
        due("no stop", x.clear(20), 1);
        due("an image stays", is(x.restore(0)), 1);
        due("its rows", x.count(1), 6);
        // the like UNIT again is a new one, too
        x = prepared();
        x.end(0);
        Bench.tape(x, CODE);
        due("the like UNIT", x.unit(), 21);
        due("deeds", x.now(5), 0);
        due("nothing can be undone", x.undo(), NONE);
        due("no SENTENCE", x.said(NONE), NONE);
    }

    // ---- 6, 10, 11, 9: the first and the last ADDRESS of a row, of a 'where'; "NONE: no row is there or ahead" ----

    private static void rowEdges() {
        CodePlaces x = Bench.unit("size 9;row 8 1;row 2 250;row 3 7;");
        int[][] rows = {{2, 250, 1}, {3, 7, 5}, {8, 1, 1}};
        for (int k = 0; k < 3; k++) {
            for (int what = 0; what < 3; what++) {
                due("row " + k + " " + what, x.row(k, what), rows[k][what]);
            }
        }
        int[] lines = {NONE, NONE, 250, 7, 7, 7, 7, 7, 1, NONE};
        for (int a = 0; a < lines.length; a++) {
            due("lineAt " + a, x.lineAt(a), lines[a]);
        }
        due("addressOf 250", x.addressOf(250, 0), 2);
        due("addressOf 250 1", x.addressOf(250, 1), NONE);
        due("addressOf 0", x.addressOf(0, 0), NONE);
        due("addressOf 251", x.addressOf(251, 0), NONE);
        due("one row of 256", Bench.unit("row 0 1;").row(0, 2), 256);
        due("one row of 1", Bench.unit("row 255 1;").row(0, 2), 1);
        x = Bench.unit("row 9 5;row 7 5;row 200 5;row 8 6;");
        int[] addresses = {7, 9, 200, NONE};
        for (int k = 0; k < 4; k++) {
            due("addressOf 5 " + k, x.addressOf(5, k), addresses[k]);
        }
    }

    // ---- 18 to 21: "all of 16 bits (0 to 65535; 0 at first)" ----

    private static void setAndPoke() {
        for (int k = 0; k < 8; k++) {
            CodePlaces x = new CodePlaces();
            due("set", x.set(k, 65535), 0);
            due("register", x.register(k), 65535);
            due("so", x.set(k, 65535), 1);
            due("another", x.set(k, 1), 0);
            due("0", x.set(k, 0), 0);
            due("so", x.set(k, 0), 1);
            for (int i = 0; i < 8; i++) {
                x.set(i, i == k ? 7 : 0);
            }
            for (int i = 0; i < 8; i++) {
                due("register " + i + " of " + k, x.register(i), i == k ? 7 : 0);
            }
        }
        CodePlaces x = new CodePlaces();
        for (int a = 0; a < 64; a++) {
            due("poke", x.poke(a, 65535 - a), 0);
            due("so", x.poke(a, 65535 - a), 1);
        }
        for (int a = 0; a < 64; a++) {
            due("memory " + a, x.memory(a), 65535 - a);
        }
        for (int k = 0; k < 8; k++) {
            due("register " + k, x.register(k), 0);
        }
    }

    // ---- 23, 24: "1 there is a stop, else 2 there are 8", lines 1 to 250 ----

    private static void stops() {
        for (int gone = 0; gone < 8; gone++) {
            CodePlaces x = new CodePlaces();
            int[] lines = {1, 250, 2, 249, 100, 10, 20, 30};
            for (int i = 0; i < 8; i++) {
                due("stop", x.stop(lines[i]), 0);
                due("stops", x.now(2), i + 1);
            }
            due("a ninth", x.stop(77), 2);
            due("clear", x.clear(lines[gone]), 0);
            due("stops", x.now(2), 7);
            due("clear again", x.clear(lines[gone]), 1);
            due("one more", x.stop(77), 0);
            for (int i = 0; i < 8; i++) {
                due("that is there", x.stop(lines[i]), i == gone ? 2 : 1);
            }
            for (int i = 0; i < 8; i++) {
                due("clear all", x.clear(lines[i]), i == gone ? 1 : 0);
            }
            due("clear 77", x.clear(77), 0);
            due("stops", x.now(2), 0);
        }
    }

    // ---- 25: "to the next row (of the least ADDRESS above) whose line is another one .. (or whose ADDRESS is out of the innermost SCOPE there)" ----

    private static void steps(String unit, int[][] fromTo) {
        for (int[] f : fromTo) {
            CodePlaces x = Bench.unit(unit);
            x.go(f[0]);
            int deeds = x.now(5);
            due("step from " + f[0], x.step(), f[1] == NONE ? 1 : 0);
            due("step to from " + f[0], x.now(0), f[1] == NONE ? f[0] : f[1]);
            due("deeds from " + f[0], x.now(5), deeds + (f[1] == NONE ? 0 : 1));
        }
    }

    private static void steps() {
        String rows = "size 40;row 5 1;row 10 1;row 15 2;row 20 2;row 39 3;";
        steps(rows, new int[][] {{0, 5}, {4, 5}, {5, 15}, {9, 15}, {10, 15}, {14, 15}, {15, 39}, {20, 39}, {38, 39}, {39, NONE}});
        // row 20 is out of a SCOPE up to 20, not out of one up to 21
        steps(rows + "scope s 8 20 0;", new int[][] {{4, 5}, {7, 15}, {8, 15}, {10, 15}, {15, 20}, {19, 20}, {20, 39}});
        steps(rows + "scope s 8 21 0;", new int[][] {{8, 15}, {15, 39}, {20, 39}});
        // only the innermost one counts, of like ones it is the same
        steps(rows + "scope s 0 20 0;scope t 4 10 0;", new int[][] {{0, 5}, {5, 10}, {9, 10}, {10, 15}, {15, 20}});
        steps(rows + "scope t 4 10 0;scope s 4 10 0;", new int[][] {{5, 10}});
        // no LINE where it stands: each row is of another one
        steps("row 9 1;row 12 1;scope s 0 20 0;", new int[][] {{0, 9}, {8, 9}, {9, NONE}, {12, NONE}});
        steps("row 0 1;", new int[][] {{0, NONE}, {255, NONE}});
        steps("", new int[][] {{0, NONE}, {255, NONE}});
    }

    // ---- 26: "to the TO of the innermost SCOPE: 1 there is none; 2 that is no ADDRESS" ----

    private static void leave(String unit, int from, int why, int to) {
        CodePlaces x = Bench.unit(unit);
        x.go(from);
        due("leave of " + unit + " from " + from, x.leave(), why);
        due("leave to", x.now(0), to);
    }

    private static void leaves() {
        leave("size 40;scope s 0 40 0;", 0, 2, 0);
        leave("size 40;scope s 0 40 0;", 39, 2, 39);
        leave("scope s 0 256 0;", 255, 2, 255);
        leave("size 40;scope s 0 39 0;", 0, 0, 39);
        leave("size 40;scope s 0 39 0;", 38, 0, 39);
        leave("size 40;scope s 0 39 0;", 39, 1, 39);
        leave("size 40;scope s 5 39 0;", 4, 1, 4);
        leave("size 40;scope s 5 39 0;", 5, 0, 39);
        leave("size 40;scope s 0 40 0;scope t 10 20 0;", 9, 2, 9);
        leave("size 40;scope s 0 40 0;scope t 10 20 0;", 10, 0, 20);
        leave("size 40;scope s 0 40 0;scope t 10 20 0;", 19, 0, 20);
        leave("size 40;scope s 0 40 0;scope t 10 20 0;", 20, 2, 20);
        leave("size 40;scope s 0 30 0;scope t 10 30 0;", 10, 0, 30);
        leave("size 40;scope s 0 1 0;", 0, 0, 1);
        leave("", 0, 1, 0);
    }

    // ---- 27: "to the next row at whose line there is a stop: 1 there is none" ----

    private static void run(int from, int to, int... lines) {
        CodePlaces x = Bench.unit("size 40;row 5 1;row 10 1;row 15 2;row 20 1;row 39 3;");
        for (int line : lines) {
            x.stop(line);
        }
        x.go(from);
        due("run from " + from, x.run(), to == NONE ? 1 : 0);
        due("run to", x.now(0), to == NONE ? from : to);
    }

    private static void runs() {
        run(0, NONE);
        run(0, 5, 1);
        run(4, 5, 1);
        run(5, 10, 1);
        run(9, 10, 1);
        run(10, 20, 1);
        run(19, 20, 1);
        run(20, NONE, 1);
        run(10, 15, 1, 2);
        run(15, 20, 2, 1);
        run(15, NONE, 2);
        run(0, 39, 3);
        run(38, 39, 3);
        run(39, NONE, 3, 2, 1);
        run(0, NONE, 4);
        run(0, 39, 250, 249, 248, 247, 246, 245, 244, 3);
    }

    // ---- 17: "how many deeds .. were done so far, by books and draws, too (it is the machine's: undone, gone back to, at first 0 with it)" ----

    private static void deedCounts() {
        CodePlaces x = Bench.unit(CODE);
        Call[] deeds = {y -> y.set(1, 1), y -> y.poke(1, 1), y -> y.go(5), y -> y.stop(12), CodePlaces::step, y -> y.go(15), CodePlaces::leave,
            y -> y.go(5), CodePlaces::run, y -> y.clear(12)};
        for (int i = 0; i < deeds.length; i++) {
            due("deed " + i, deeds[i].on(x), 0);
            due("deeds " + i, x.now(5), i + 1);
        }
        x.image(0);
        Call[] none = {y -> y.set(1, 1), y -> y.poke(1, 1), y -> y.go(20), y -> y.clear(12)};
        for (Call c : none) {
            due("not done", c.on(x), 1);
        }
        due("deeds", x.now(5), 10);
        Bench.book(x, "set 2 2;set 3 3;set 3 3;set 4 4;", 0);
        due("deeds", x.now(5), 10);
        Bench.book(x, "set 2 2;set 3 3;set 3 3;set 4 4;", 1);
        due("deeds", x.now(5), 12);
        int done = x.drawn(60, 99);
        due("some are done", done > 0 && done < 60 ? 1 : 0, 1);
        due("deeds", x.now(5), 12 + done);
        x.undo();
        due("deeds", x.now(5), 12);
        x.undo();
        due("deeds", x.now(5), 10);
        x.undo();
        due("deeds", x.now(5), 9);
        x.restore(0);
        due("deeds", x.now(5), 10);
    }

    // ---- 28: each of what can be undone is undone, as if it had not been ----

    private static void undone(String name, Call setup, Call deed, int want) {
        CodePlaces x = prepared();
        setup.on(x);
        due(name, deed.on(x), want);
        int left = x.undo();
        CodePlaces y = prepared();
        setup.on(y);
        Dump.of(x).same("undone " + name, Dump.of(y), "fault", "told", "count 6", "tape");
        y = prepared();
        setup.on(y);
        due("left behind " + name, y.undo(), left - 1);
    }

    private static void undoOfEach() {
        undone("set", NOTHING, x -> x.set(0, 1), 0);
        undone("set again", NOTHING, x -> x.set(1, 65535), 0);
        undone("poke", NOTHING, x -> x.poke(0, 1), 0);
        undone("poke again", NOTHING, x -> x.poke(3, 1), 0);
        undone("go", NOTHING, x -> x.go(39), 0);
        undone("stop", NOTHING, x -> x.stop(10), 0);
        undone("clear", NOTHING, x -> x.clear(20), 0);
        undone("clear one of three", x -> x.stop(10) + x.stop(1), x -> x.clear(20), 0);
        undone("step", NOTHING, CodePlaces::step, 0);
        undone("leave", NOTHING, CodePlaces::leave, 0);
        undone("run", x -> x.stop(10), CodePlaces::run, 0);
        undone("book", NOTHING, x -> Bench.book(endAll(x), "set 5 5;stop 1;go 2;poke 63 9;clear 20;step;", 1), NONE);
        undone("book of one LINE", NOTHING, x -> Bench.book(endAll(x), "set 5 5;set 5 5;", 1), 1);
        undone("drawn", NOTHING, x -> Math.min(1, x.drawn(60, 5)), 1);
        undone("drawn one", NOTHING, x -> x.drawn(1, seedOf(3)), 1);
    }

    private static CodePlaces endAll(CodePlaces x) {
        x.end(0);
        return x;
    }

    // ---- 28: "how many more can be (8 at most are kept)" ----

    private static void undoOfEight() {
        for (int many = 0; many <= 11; many++) {
            CodePlaces x = Bench.unit(CODE);
            for (int i = 1; i <= many; i++) {
                due("set", x.set(0, i), 0);
            }
            int kept = Math.min(8, many);
            for (int i = 1; i <= kept; i++) {
                due("undo " + i + " of " + many, x.undo(), kept - i);
                due("register then", x.register(0), many - i);
                due("deeds then", x.now(5), many - i);
            }
            due("undo no more of " + many, x.undo(), NONE);
            due("undo no more again", x.undo(), NONE);
            due("one more", x.set(1, 1), 0);
            due("undo one more", x.undo(), 0);
        }
        CodePlaces x = Bench.unit(CODE);
        for (int i = 1; i <= 20; i++) {
            x.poke(i, i);
            x.poke(i + 20, i);
            due("one of two", x.undo(), Math.min(7, i));
        }
        for (int i = 20; i > 13; i--) {
            due("undo", x.undo(), i - 14);
            due("memory", x.memory(i), 0);
        }
        due("none is", x.undo(), NONE);
        due("memory stays", x.memory(13), 13);
    }

    // ---- 28: "not one that did nothing", "of which some LINE was lived" ----

    private static void undoOfNothing() {
        CodePlaces x = Bench.unit("size 1;");
        due("a draw that does nothing", x.drawn(1, seedOf(3)), 0);
        due("undo", x.undo(), NONE);
        due("a book of none", Bench.book(x, "", 1), NONE);
        due("undo", x.undo(), NONE);
        due("a book that is WRONG at once", Bench.book(x, "go 0;set 1 1;", 1), 0);
        due("undo", x.undo(), NONE);
        due("a book that is judged", Bench.book(x, "set 1 1;", 0), NONE);
        due("undo", x.undo(), NONE);
        due("a book with a FAULT", Bench.book(x, "set 1 1;x", 1), -10);
        due("undo", x.undo(), NONE);
        due("odds", x.odds(0, 1, 1), NONE);
        due("undo", x.undo(), NONE);
        due("a book of one LINE", Bench.book(x, "set 1 1;set 1 1;", 1), 1);
        due("register", x.register(1), 1);
        due("undo", x.undo(), 0);
        due("register", x.register(1), 0);
    }

    // ---- 43, 44: "kept in place k (0, 1)", "nothing can be undone", "nothing is kept there" ----

    private static void images() {
        CodePlaces x = prepared();
        due("image 1", is(x.image(1)), 1);
        x.set(1, 6);
        x.go(3);
        x.stop(3);
        x.poke(3, 3);
        due("restore 1", is(x.restore(1)), 1);
        due("nothing can be undone", x.undo(), NONE);
        Dump.of(x).same("restored", before(y -> is(y.image(1))), "undo", "clear");
        x = prepared();
        Call later = y -> is(y.restore(0));
        later.on(x);
        due("register as kept", x.register(2), 0);
        due("deeds as kept", x.now(5), 4);
        due("tape stays", x.count(6), 8);
        due("fault stays", x.fault(), 2);
        due("told stays", x.told(1), 1);
        due("chain stays", x.chainAt(0), 2);
        due("packed stays", x.packedAt(0), 3);
        due("unpacked stays", x.unpackedAt(1, 0), 3);
        due("tag stays", x.byteAt(0), 'c');
        due("nothing can be undone", x.undo(), NONE);
        due("one deed", x.set(2, 9), 0);
        due("is undone", x.undo(), 0);
        due("none more", x.undo(), NONE);
        // an image of a new object, over another one
        x = new CodePlaces();
        due("image of none", is(x.image(0)), 1);
        Bench.tape(x, CODE);
        x.unit();
        Bench.sentence(x, "signed");
        x.set(3, 3);
        due("image 1", is(x.image(1)), 1);
        due("restore 0", is(x.restore(0)), 1);
        due("rows", x.count(1), 0);
        due("size", x.count(0), 256);
        due("no SENTENCE", x.said(NONE), NONE);
        due("restore 1", is(x.restore(1)), 1);
        due("rows", x.count(1), 6);
        due("said", x.said(NONE), 1);
        due("register", x.register(3), 3);
        due("restore 1 again", is(x.restore(1)), 1);
        due("register", x.register(3), 3);
        due("image 1 over 0", is(x.image(0)), 1);
        x.set(3, 4);
        due("restore 0", is(x.restore(0)), 1);
        due("rows", x.count(1), 6);
        due("register", x.register(3), 3);
    }
}
