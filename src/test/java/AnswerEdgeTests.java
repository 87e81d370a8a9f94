import java.util.ArrayList;
import java.util.Arrays;
import java.util.List;

/**
 * CHAIN, VALUE, PROGRAMS, COVER, LONGEST, TAG, DRAWN, BOOK and SENTENCE at the edges that the document names.
 */
public final class AnswerEdgeTests {
    private static final int NONE = CodePlaces.NONE;
    private static final int MIN = Integer.MIN_VALUE;
    private static final int MAX = Integer.MAX_VALUE;
    private static final String CODE = "size 40;row 0 10;row 4 11;row 10 20;row 14 21;row 20 12;row 30 10;"
        + "scope main 0 40 0;scope inl 10 20 11;scope deep 14 18 20;"
        + "type word 0 16 plain;type byte 4 8 plain;type low 0 4 signed;"
        + "var a main word;var b inl byte;var c deep low;"
        + "where a 0 10 in 2;where a 10 30 reg 3 5 plus;where b 10 14 7 reg 1 times value;where b 14 20 reg 0 load load;where c 14 16 3;";

    private AnswerEdgeTests() {
    }

    public static void main(String[] args) {
        chains();
        chainsStay();
        bits();
        stackOrder();
        wraps();
        whys();
        emptyAtFirst();
        whereEdges();
        ops();
        refusedPrograms();
        programsStay();
        packedOnes();
        packedAll();
        packedAgain();
        covers();
        longest();
        tags();
        tagsStay();
        draws();
        drawnStops();
        odds();
        wrongLines();
        toldStays();
        lived();
        conditions();
        saidEdges();
        within();
        Bench.finish("AnswerEdgeTests");
    }

    private static void due(String call, long got, long want) {
        Bench.due(call, got, want);
    }

    // ---- 12 to 14, 7: "the innermost first (the one of the fewest ADDRESSES; of like ones the one told last)" ----

    private static void chain(CodePlaces x, int a, int[] scopes, int... lines) {
        due("chain " + a, x.chain(a), scopes.length);
        for (int k = 0; k < scopes.length; k++) {
            due("chainAt " + k + " of " + a, x.chainAt(k), scopes[k]);
            due("chainLine " + k + " of " + a, x.chainLine(k), lines[k]);
        }
        due("chainAt behind " + a, x.chainAt(scopes.length), NONE);
        due("chainLine behind " + a, x.chainLine(scopes.length), NONE);
        due("chainAt ahead " + a, x.chainAt(-1), NONE);
        due("chainLine ahead " + a, x.chainLine(-1), NONE);
    }

    private static void chains() {
        CodePlaces x = Bench.unit("size 30;row 3 9;scope a 0 30 250;scope b 5 6 0;scope c 5 10 1;scope d 5 10 2;scope e 9 10 3;scope f 4 11 4;");
        chain(x, 0, new int[] {0}, NONE);
        chain(x, 3, new int[] {0}, 9);
        chain(x, 4, new int[] {5, 0}, 9, 4);
        chain(x, 5, new int[] {1, 3, 2, 5, 0}, 9, 0, 2, 1, 4);
        chain(x, 6, new int[] {3, 2, 5, 0}, 9, 2, 1, 4);
        chain(x, 8, new int[] {3, 2, 5, 0}, 9, 2, 1, 4);
        chain(x, 9, new int[] {4, 3, 2, 5, 0}, 9, 3, 2, 1, 4);
        chain(x, 10, new int[] {5, 0}, 9, 4);
        chain(x, 11, new int[] {0}, 9);
        chain(x, 29, new int[] {0}, 9);
        int[] behind = {NONE, 3, 5, 2, 3, 0};
        for (int s = 0; s < 6; s++) {
            due("scope behind " + s, x.scope(s, 3), behind[s]);
        }
        due("chain 30", x.chain(30), NONE);
        // ten like ones
        StringBuilder like = new StringBuilder();
        for (int i = 0; i < 10; i++) {
            like.append("scope ").append((char) ('a' + i)).append(" 7 8 ").append(i).append(";");
        }
        x = Bench.unit(like.toString());
        chain(x, 7, new int[] {9, 8, 7, 6, 5, 4, 3, 2, 1, 0}, NONE, 9, 8, 7, 6, 5, 4, 3, 2, 1);
        chain(x, 6, new int[0]);
        chain(x, 8, new int[0]);
        due("behind the last told", x.scope(9, 3), 8);
        due("behind the first told", x.scope(0, 3), NONE);
        // an outer one told last is behind all the same
        x = Bench.unit("scope a 5 6 1;scope b 5 7 2;scope c 0 256 3;");
        chain(x, 5, new int[] {0, 1, 2}, NONE, 1, 2);
    }

    private static void chainsStay() {
        CodePlaces x = Bench.unit(CODE);
        x.chain(15);
        due("chain -1", x.chain(-1), NONE);
        due("chain 40", x.chain(40), NONE);
        due("chainAt stays", x.chainAt(2), 0);
        due("chainLine stays", x.chainLine(2), 11);
        Bench.tape(x, "size 5;");
        x.unit();
        due("chainAt behind a new UNIT", x.chainAt(2), 0);
        due("chainLine behind a new UNIT", x.chainLine(0), 21);
        due("chain of none", x.chain(4), 0);
        due("chainAt then", x.chainAt(0), NONE);
        due("chainLine then", x.chainLine(0), NONE);
        due("chain 5", x.chain(5), NONE);
        due("chainAt then", x.chainAt(0), NONE);
    }

    // ---- 15: "MANY bits from bit FIRST on (0 the lowest); signed: less 2 to MANY, if the highest of these is 1" ----

    private static void bits() {
        for (int first = 0; first <= 15; first++) {
            for (int many = 1; many <= 16 - first; many++) {
                CodePlaces x = Bench.unit("scope s 0 1 0;type t " + first + " " + many + " plain;type u " + first + " " + many
                    + " signed;var v s t;var w s u;where v 0 1 in 1;where w 0 1 in 1;");
                for (int word : new int[] {0, 65535, 1 << first, 1 << first + many - 1, 0xa5c3, 1 << first + many - 1 ^ 65535}) {
                    x.set(1, word);
                    int plain = (word >> first) % (1 << many);
                    boolean high = plain >= 1 << many - 1;
                    due("value plain " + first + " " + many + " of " + word, x.value(0, 0), plain);
                    due("value signed " + first + " " + many + " of " + word, x.value(1, 0), high ? plain - (1 << many) : plain);
                }
            }
        }
    }

    private static CodePlaces expr(String expr) {
        CodePlaces x = Bench.unit("scope s 0 10 0;type t 0 16 plain;var v s t;where v 2 8 " + expr + ";");
        int[] registers = {32768, 39650, 54161, 42966, 49981, 65535, 63, 64};
        for (int k = 0; k < 8; k++) {
            x.set(k, registers[k]);
        }
        for (int a = 0; a < 64; a++) {
            x.poke(a, 1000 + a);
        }
        return x;
    }

    private static void valued(String expr, int want) {
        CodePlaces x = expr(expr);
        due("why " + expr, x.why(0, 2), 0);
        due("value " + expr, Bench.answer(() -> x.value(0, 7)), want);
    }

    private static void isOut(String expr, int why) {
        CodePlaces x = expr(expr);
        due("why " + expr, x.why(0, 2), why);
        due("value " + expr, Bench.answer(() -> x.value(0, 2)), Bench.THROWN);
    }

    // ---- "the two on top, the lower one first, are one", "What is on top at last", "its lowest 16 bits" ----

    private static void stackOrder() {
        valued("in 0", 32768);
        valued("in 7", 64);
        valued("reg 7 value", 64);
        valued("reg 6", 1063);
        valued("7 3 minus value", 4);
        valued("3 7 minus value", 65532);
        valued("7 3 swap minus value", 65532);
        valued("9 7 3 swap minus value", 65532);
        valued("9 7 3 minus value", 4);
        valued("9 7 3 minus minus value", 5);
        valued("2 3 4 plus times value", 14);
        valued("2 3 4 swap value", 3);
        valued("2 3 4 swap minus value", 1);
        valued("5 dup dup plus minus value", 65531);
        // what is below those that an OP takes stays as it is
        valued("1 2 dup plus plus value", 5);
        valued("9 2 dup times minus value", 5);
        valued("1 7 3 swap minus minus value", 5);
        valued("1 5 load minus value", 64532);
        valued("1 2 3 plus minus value", 65532);
        valued("2 3 4 times minus value", 65526);
        valued("1 2 reg 6 minus minus value", 62);
        valued("0 value", 0);
        valued("999 value", 999);
        valued("0", 1000);
        valued("63", 1063);
        valued("63 load value", 1063);
        valued("0 load value", 1000);
        valued("reg 5 1 plus value", 0);
        valued("reg 5 2 plus value", 1);
        valued("0 1 minus value", 65535);
        valued("reg 5 reg 5 plus value", 65534);
        valued("reg 5 dup times value", 1);
    }

    // ---- "a stack of ints, .. wrapping" ----

    private static void wraps() {
        // 32768 by itself by 4 is 2 to 32
        valued("reg 0 dup times 4 times", 1000);
        // 39650 by 54161 is 2 to 31 and 2, twice that is 4
        valued("reg 1 reg 2 times dup plus", 1004);
        valued("reg 1 reg 2 times dup plus load value", 1004);
        // 42966 by 49981 is 2 to 31 less 2: from the one ahead that is 4
        valued("reg 1 reg 2 times reg 3 reg 4 times minus", 1004);
        isOut("reg 0 dup times 2 times", 3);
        isOut("reg 0 dup times 2 times load", 2);
    }

    // ---- 16: "1 no 'where' of it has that ADDRESS; 2 a 'load' at a place that is none; 3 the place of the word is none" ----

    private static void whys() {
        isOut("64", 3);
        isOut("999", 3);
        isOut("reg 7", 3);
        isOut("0 1 minus", 3);
        isOut("64 load", 2);
        isOut("64 load value", 2);
        isOut("0 1 minus load", 2);
        isOut("0 1 minus load value", 2);
        isOut("reg 7 load 5", 2);
        isOut("reg 7 load 5 value", 2);
        isOut("0 load", 3);
        isOut("0 load load", 2);
        isOut("64 load 999", 2);
        valued("64 value", 64);
        valued("0 1 minus value", 65535);
        valued("64 63", 1063);
        CodePlaces x = expr("3");
        due("no such VAR", x.why(1, 2), NONE);
        due("no such ADDRESS", x.why(0, 256), NONE);
        due("a VAR without a 'where'", Bench.unit("scope s 0 10 0;type t 0 16 plain;var v s t;").why(0, 5), 1);
    }

    // ---- "a stack of ints, empty at first": whatever was left on it by the one ahead ----

    private static void emptyAtFirst() {
        CodePlaces x = Bench.unit("scope s 0 10 0;type t 0 16 plain;var v s t;var w s t;where v 0 9 1 2 3 4 5 6 7 8 value;where w 0 9 1 2 3 64 load;");
        for (int i = 0; i < 20; i++) {
            due("value again", x.value(0, i % 9), 8);
            due("why again", x.why(1, i % 9), 2);
            due("VARS again", x.now(4), 1);
        }
    }

    // ---- 9, 15: "that 'where' of it that has the ADDRESS": from FROM on, not at TO ----

    private static void whereEdges() {
        CodePlaces x = expr("in 6;where v 8 9 in 7;where v 0 1 in 5");
        int[] places = {2, NONE, 0, 0, 0, 0, 0, 0, 1, NONE, NONE};
        int[] values = {65535, Bench.THROWN, 63, 63, 63, 63, 63, 63, 64, Bench.THROWN, Bench.THROWN};
        for (int i = 0; i < places.length; i++) {
            int a = i;
            due("placeOf " + a, x.placeOf(0, a), places[a]);
            due("why " + a, x.why(0, a), places[a] == NONE ? 1 : 0);
            due("value " + a, Bench.answer(() -> x.value(0, a)), values[a]);
            x.go(a);
            due("VARS at " + a, x.now(4), places[a] == NONE ? 0 : 1);
        }
        // those of another VAR are not its own
        CodePlaces y = Bench.unit("scope s 0 10 0;type t 0 16 plain;var v s t;var w s t;where w 0 5 1 value;where v 4 6 2 value;");
        due("of v", y.placeOf(0, 4), 1);
        due("of w", y.placeOf(1, 4), 0);
        due("v", y.value(0, 4), 2);
        due("w", y.value(1, 4), 1);
        due("v is out", y.why(0, 3), 1);
        due("w is out", y.why(1, 5), 1);
    }

    // ---- 31: UNPACKED, each op at its edges ----

    private static int[] many(int times, int... ops) {
        int[] all = new int[times * ops.length];
        for (int i = 0; i < all.length; i++) {
            all[i] = ops[i % ops.length];
        }
        return all;
    }

    private static int[] join(int[] a, int... b) {
        int[] all = Arrays.copyOf(a, a.length + b.length);
        System.arraycopy(b, 0, all, a.length, b.length);
        return all;
    }

    private static void program(int[] bytes, int... rows) {
        CodePlaces x = new CodePlaces();
        Bench.tape(x, bytes);
        String name = "program " + Arrays.toString(bytes);
        due(name, x.unpacked(), rows.length / 2);
        due("tape is empty", x.count(6), 0);
        for (int k = 0; k < rows.length / 2; k++) {
            due(name + " ADDRESS " + k, x.unpackedAt(k, 0), rows[2 * k]);
            due(name + " line " + k, x.unpackedAt(k, 1), rows[2 * k + 1]);
        }
        due("behind the last", x.unpackedAt(rows.length / 2, 0), NONE);
        due("ahead of all", x.unpackedAt(-1, 0), NONE);
        due("another what", x.unpackedAt(0, 2), NONE);
        due("the UNIT stays", x.count(1), 0);
    }

    private static int[] p(int... bytes) {
        return bytes;
    }

    private static void ops() {
        program(p(0));
        program(p(1, 0), 0, 1);
        program(p(14, 0), 0, 1);
        program(p(2, 0, 1, 0), 0, 1);
        program(p(2, 255, 1, 0), 255, 1);
        program(p(2, 128, 2, 127, 1, 0), 255, 1);
        program(p(4, 1, 0), 17, 1);
        program(join(many(15, 4), 1, 0), 255, 1);
        program(p(2, 238, 4, 1, 0), 255, 1);
        program(p(3, 0, 0, 1, 0), 0, 1);
        program(p(3, 0, 1, 1, 0), 0, 2);
        program(p(3, 0, 249, 1, 0), 0, 250);
        program(p(3, 0, 249, 26, 26, 0), 1, 250, 2, 250);
        program(p(3, 1, 0, 3, 255, 249, 1, 0), 0, 250);
        program(p(3, 127, 255, 3, 128, 1, 1, 0), 0, 1);
        program(p(3, 128, 0, 3, 127, 255, 3, 0, 2, 1, 0), 0, 2);
        program(p(3, 255, 255, 3, 0, 1, 1, 0), 0, 1);
        program(p(3, 255, 255, 15, 0), 0, 1);
        // from 10 on: 12 lines to an ADDRESS, from 4 less to 7 more
        program(p(3, 0, 4, 10, 0), 0, 1);
        program(p(21, 0), 0, 8);
        program(p(3, 0, 4, 22, 0), 1, 1);
        program(p(33, 0), 1, 8);
        program(p(3, 0, 4, 250, 0), 20, 1);
        program(p(255, 0), 20, 2);
        program(p(2, 235, 255, 0), 255, 2);
        program(p(1, 26, 26, 0), 0, 1, 1, 1, 2, 1);
        program(p(2, 5, 2, 3, 3, 0, 2, 3, 0, 3, 4, 1, 0), 25, 6);
        // what comes behind the last row is read, too
        program(p(1, 2, 255, 0), 0, 1);
        program(p(1, 3, 255, 255, 3, 255, 255, 0), 0, 1);
        int[] rows = new int[60];
        for (int k = 0; k < 30; k++) {
            rows[2 * k] = k + 1;
            rows[2 * k + 1] = 1;
        }
        program(join(many(30, 26), 0), rows);
        // a tape that is full
        program(join(many(469, 2, 0), 1, 0), 0, 1);
        program(join(many(313, 3, 0, 0), 0));
    }

    // ---- "refused at the place (from 0) of ..." ----

    private static void refusedAt(int place, int... bytes) {
        CodePlaces x = new CodePlaces();
        Bench.tape(x, 26, 27, 0);
        due("a program", x.unpacked(), 2);
        Bench.tape(x, bytes);
        due("refused " + Arrays.toString(bytes), x.unpacked(), -1 - place);
        due("tape is empty", x.count(6), 0);
        due("the latest stays", x.unpackedAt(1, 0), 2);
        due("the latest stays", x.unpackedAt(1, 1), 2);
        due("the latest stays", x.unpackedAt(2, 0), NONE);
    }

    private static void refusedPrograms() {
        // an op that is none
        for (int op = 5; op <= 9; op++) {
            refusedAt(0, op, 0);
            refusedAt(0, op);
            refusedAt(3, 1, 2, 3, op, 0);
            refusedAt(3, 3, 0, 100, op, 0);
            refusedAt(5, 3, 0, 100, 2, 50, op, 1, 0);
        }
        // not whole
        refusedAt(0, 2);
        refusedAt(1, 1, 2);
        refusedAt(0, 3);
        refusedAt(0, 3, 0);
        refusedAt(1, 1, 3);
        refusedAt(1, 1, 3, 0);
        refusedAt(2, 2, 3, 3, 0);
        // by which the ADDRESS would be above 255
        refusedAt(2, 2, 255, 2, 1, 0);
        refusedAt(2, 2, 128, 2, 128, 0);
        refusedAt(2, 2, 239, 4, 0);
        refusedAt(15, join(many(16, 4), 1, 0));
        refusedAt(2, 2, 236, 255, 0);
        refusedAt(2, 2, 255, 26, 0);
        refusedAt(3, 1, 2, 255, 2, 255, 0);
        // a row whose ADDRESS is not above that of the one ahead
        refusedAt(1, 1, 1, 0);
        refusedAt(1, 1, 14, 0);
        refusedAt(1, 1, 15, 0);
        refusedAt(3, 1, 2, 0, 1, 0);
        refusedAt(2, 255, 26, 21, 0);
        // whose line is not 1 to 250
        refusedAt(3, 3, 255, 255, 1, 0);
        refusedAt(0, 13, 0);
        refusedAt(0, 10, 0);
        refusedAt(3, 3, 0, 250, 1, 0);
        refusedAt(3, 3, 0, 249, 15, 0);
        refusedAt(3, 3, 127, 255, 1, 0);
        refusedAt(3, 3, 128, 0, 1, 0);
        refusedAt(3, 3, 0, 3, 10, 0);
        // the 31st
        refusedAt(30, join(many(31, 26), 0));
        refusedAt(32, join(many(30, 26), 2, 1, 1, 0));
        // at the first byte behind the end
        refusedAt(1, 0, 0);
        refusedAt(1, 0, 1);
        refusedAt(1, 0, 5);
        refusedAt(2, 1, 0, 26, 0);
        refusedAt(1, many(940, 0));
        // at how many there are, if it does not end
        refusedAt(0);
        refusedAt(1, 1);
        refusedAt(2, 1, 26);
        refusedAt(2, 2, 0);
        refusedAt(3, 3, 0, 0);
        refusedAt(940, many(470, 2, 0));
        refusedAt(15, many(15, 4));
        // the first along the bytes
        refusedAt(1, 1, 1, 5, 2);
        refusedAt(0, 5, 1, 1, 0);
    }

    private static void programsStay() {
        CodePlaces x = new CodePlaces();
        due("ahead of any", x.unpackedAt(0, 0), NONE);
        Bench.tape(x, 1, 1, 0);
        due("refused", x.unpacked(), -2);
        due("none that was not refused", x.unpackedAt(0, 0), NONE);
        Bench.tape(x, 21, 0);
        due("one row", x.unpacked(), 1);
        Bench.tape(x, 1, 26, 5);
        due("refused", x.unpacked(), -3);
        due("ADDRESS", x.unpackedAt(0, 0), 0);
        due("line", x.unpackedAt(0, 1), 8);
        due("no second", x.unpackedAt(1, 0), NONE);
        Bench.tape(x, 0);
        due("no rows", x.unpacked(), 0);
        due("none then", x.unpackedAt(0, 0), NONE);
    }

    // ---- 29, 30: "the fewest bytes that give all rows by ADDRESS, and end; of like ones byte by byte the least" ----

    private static void packedAs(String rows, int... bytes) {
        CodePlaces x = Bench.unit(rows);
        due("packed " + rows, x.packed(), bytes.length);
        for (int i = 0; i < bytes.length; i++) {
            due("packedAt " + i + " of " + rows, x.packedAt(i), bytes[i]);
        }
        due("packedAt behind", x.packedAt(bytes.length), NONE);
        due("packedAt ahead", x.packedAt(-1), NONE);
    }

    private static void packedOnes() {
        packedAs("", 0);
        packedAs("row 0 1;", 1, 0);
        packedAs("row 0 2;", 15, 0);
        packedAs("row 0 8;", 21, 0);
        packedAs("row 0 9;", 3, 0, 1, 21, 0);
        packedAs("row 0 250;", 3, 0, 242, 21, 0);
        packedAs("row 0 5;row 1 1;", 18, 22, 0);
        packedAs("row 0 6;row 1 1;", 19, 3, 255, 244, 33, 0);
        packedAs("row 19 8;", 249, 0);
        packedAs("row 20 1;", 254, 0);
        packedAs("row 20 2;", 255, 0);
        packedAs("row 20 3;", 4, 52, 0);
        packedAs("row 21 1;", 4, 62, 0);
        packedAs("row 36 8;", 4, 249, 0);
        packedAs("row 37 2;", 4, 255, 0);
        packedAs("row 37 3;", 2, 18, 244, 0);
        packedAs("row 38 1;", 2, 18, 254, 0);
        packedAs("row 255 1;", 2, 235, 254, 0);
        packedAs("row 255 3;", 2, 236, 244, 0);
        packedAs("row 255 250;", 2, 235, 3, 0, 248, 255, 0);
        packedAs("row 20 250;", 3, 0, 248, 255, 0);
        packedAs("row 37 250;", 3, 0, 248, 4, 255, 0);
        packedAs("row 19 250;", 3, 0, 242, 249, 0);
        packedAs("row 5 3;row 0 3;row 2 3;", 16, 38, 50, 0);
    }

    /** All ways to a row that can be the shortest: to go up and to the line ahead of the last op, in both orders. */
    private static int[] best(int up, int more) {
        int[] best = null;
        for (int rest = -4; rest <= 7; rest++) {
            int x = more - rest & 65535;
            int[] line = rest == more ? p() : p(3, x >> 8, x & 255);
            for (int n = 0; n <= up; n++) {
                List<int[]> ways = new ArrayList<>();
                ways.add(n == 0 ? p() : p(2, n));
                if (n == 17 || n == 34 || n == 51) {
                    ways.add(many(n / 17, 4));
                }
                for (int[] way : ways) {
                    int c = 12 * (up - n) + rest + 4;
                    for (int last : new int[] {n == up && rest == 0 ? 1 : NONE, c <= 245 ? 10 + c : NONE}) {
                        if (last != NONE) {
                            best = less(best, join(join(way, line), last));
                            best = less(best, join(join(line, way), last));
                        }
                    }
                }
            }
        }
        return best;
    }

    private static int[] less(int[] a, int[] b) {
        if (a == null || a.length != b.length) {
            return a == null || b.length < a.length ? b : a;
        }
        return Arrays.compare(a, b) <= 0 ? a : b;
    }

    private static void packedAll() {
        for (int up = 0; up <= 255; up++) {
            for (int line : new int[] {1, 2, 3, 7, 8, 9, 250}) {
                packedAs("row " + up + " " + line + ";", join(best(up, line - 1), 0));
                if (up > 0) {
                    packedAs("row 0 8;row " + up + " " + line + ";", join(join(p(21), best(up, line - 8)), 0));
                }
            }
        }
        for (int up = 1; up <= 40; up++) {
            for (int from = 1; from <= 250; from += 83) {
                for (int line = 1; line <= 250; line += 3) {
                    String rows = "row 0 " + from + ";row " + up + " " + line + ";";
                    packedAs(rows, join(join(best(0, from - 1), best(up, line - from)), 0));
                }
            }
        }
    }

    private static void packedAgain() {
        StringBuilder rows = new StringBuilder();
        int[] bytes = p();
        for (int i = 0; i < 30; i++) {
            rows.append("row ").append(i * 8).append(i % 2 == 0 ? " 250;" : " 1;");
            bytes = join(bytes, best(i == 0 ? 0 : 8, i % 2 == 0 ? 249 : -249));
        }
        packedAs(rows.toString(), join(bytes, 0));
        CodePlaces x = Bench.unit(rows.toString());
        due("packed", x.packed(), 121);
        Bench.tape(x, "row 0 1;");
        x.unit();
        due("the latest stays", x.packedAt(120), 0);
        due("packed then", x.packed(), 2);
        due("its first byte", x.packedAt(0), 1);
        due("its last byte", x.packedAt(1), 0);
        due("behind it", x.packedAt(2), NONE);
        due("packed again", x.packed(), 2);
        due("its first byte", x.packedAt(0), 1);
    }

    // ---- 33: "how many ADDRESSES of its SCOPE are in a 'where' of it, by how many it has"; "in least terms" ----

    private static void cover(int size, String wheres, int above, int below) {
        CodePlaces x = Bench.unit("scope s 0 " + size + " 0;type t 0 16 plain;var w s t;var v s t;where w 0 1 1;" + wheres);
        due("cover above of " + size + wheres, x.cover(1, 0), above);
        due("cover below of " + size + wheres, x.cover(1, 1), below);
        due("cover what 2", Bench.answer(() -> x.cover(1, 2)), Bench.THROWN);
        due("cover what -1", Bench.answer(() -> x.cover(1, -1)), Bench.THROWN);
        due("cover of VAR 2", Bench.answer(() -> x.cover(2, 0)), Bench.THROWN);
        due("cover of VAR -1", Bench.answer(() -> x.cover(-1, 1)), Bench.THROWN);
    }

    private static void covers() {
        cover(256, "", 0, 1);
        cover(1, "", 0, 1);
        cover(1, "where v 0 1 1;", 1, 1);
        cover(256, "where v 0 256 1;", 1, 1);
        cover(256, "where v 0 1 1;", 1, 256);
        cover(256, "where v 0 255 1;", 255, 256);
        cover(256, "where v 0 128 1;", 1, 2);
        cover(251, "where v 0 250 1;", 250, 251);
        cover(12, "where v 0 4 1;where v 8 12 1;", 2, 3);
        cover(12, "where v 0 4 1;where v 4 8 1;where v 8 12 64 load;", 1, 1);
        cover(200, "where v 150 200 1;", 1, 4);
        cover(233, "where v 0 144 1;", 144, 233);
        cover(10, "where v 9 10 1;where v 0 1 1;where v 5 8 1;", 1, 2);
    }

    // ---- 34: "the line of most ADDRESSES (of like ones the least)" ----

    private static void longest(String rows, int line) {
        due("longest of " + rows, Bench.unit(rows).longest(), line);
    }

    private static void longest() {
        longest("", NONE);
        longest("row 255 250;", 250);
        longest("row 0 1;", 1);
        longest("size 10;row 0 9;row 5 8;", 8);
        longest("size 10;row 0 8;row 5 9;", 8);
        longest("size 11;row 0 8;row 5 9;", 9);
        longest("size 9;row 0 9;row 5 8;", 9);
        longest("size 9;row 8 250;row 7 1;", 1);
        longest("size 12;row 0 3;row 4 2;row 6 1;row 9 2;", 2);
        longest("size 12;row 0 3;row 3 2;row 5 1;row 9 3;", 3);
        longest("size 12;row 0 5;row 4 4;row 8 3;", 3);
        longest("size 12;row 5 5;row 7 4;row 9 3;", 3);
    }

    // ---- 35, 36: "its VALUE as digits ('-' ahead, if it is below 0)" ----

    private static void tagged(String name, String scope, String type, int word, String value) {
        CodePlaces x = Bench.unit("scope " + scope + " 0 9 0;type t " + type + ";var " + name + " " + scope + " t;where " + name + " 0 5 in 0;");
        x.set(0, word);
        String want = name + " is " + value + " in " + scope;
        Bench.due("tag " + want, Bench.tag(x, 0).equals(want), true);
        due("tag length", x.tag(0), want.length());
        due("behind it", x.byteAt(want.length()), NONE);
        due("ahead of it", x.byteAt(-1), NONE);
        x.go(5);
        want = name + " is out in " + scope;
        Bench.due("tag " + want, Bench.tag(x, 0).equals(want), true);
        due("behind it", x.byteAt(want.length()), NONE);
    }

    private static void tags() {
        for (int n : new int[] {0, 1, 9, 10, 11, 19, 99, 100, 101, 110, 999, 1000, 1001, 9999, 10000, 10001, 32767, 32768, 50000, 65535}) {
            tagged("v", "s", "0 16 plain", n, String.valueOf(n));
            tagged("abcdefg", "zyxwvut", "0 16 signed", n, String.valueOf(n > 32767 ? n - 65536 : n));
        }
        for (int n : new int[] {-1, -9, -10, -99, -100, -999, -1000, -9999, -10000, -32767, -32768}) {
            tagged("z", "aaaaaaa", "0 16 signed", n + 65536, String.valueOf(n));
        }
        tagged("a", "z", "0 1 signed", 1, "-1");
        tagged("a", "z", "0 1 plain", 1, "1");
        tagged("out", "is", "15 1 signed", 65535, "-1");
        tagged("zzzzzzz", "a", "0 4 signed", 8, "-8");
    }

    private static void tagsStay() {
        CodePlaces x = Bench.unit(CODE);
        due("byteAt ahead of any", x.byteAt(0), NONE);
        due("tag 3", x.tag(3), NONE);
        due("byteAt then", x.byteAt(0), NONE);
        due("tag 0", x.tag(0), 14);
        due("tag -1", x.tag(-1), NONE);
        due("byteAt stays", x.byteAt(0), 'a');
        due("byteAt 13", x.byteAt(13), 'n');
        due("byteAt 14", x.byteAt(14), NONE);
        x.set(2, 65535);
        due("byteAt stays", x.byteAt(5), '0');
        due("tag 0", x.tag(0), 18);
        due("byteAt", x.byteAt(5), '6');
        x.set(2, 0);
        due("a shorter one", x.tag(0), 14);
        due("behind it", x.byteAt(14), NONE);
        // of a VAR by three kinds of 'where'
        x.go(30);
        Bench.due("out", Bench.tag(x, 0).equals("a is out in main"), true);
        x.go(14);
        x.set(3, 60);
        Bench.due("its place is none", Bench.tag(x, 0).equals("a is out in main"), true);
        x.set(0, 64);
        Bench.due("a 'load' is none", Bench.tag(x, 1).equals("b is out in inl"), true);
    }

    // ---- 37: DRAWN: "n (1 to 60)", "(an int, wrapping)", "each, if it can be" ----

    private static final class Seed {
        private int x;

        Seed(int x) {
            this.x = x;
        }

        int draw(int n) {
            x = x * 1103515245 + 12345;
            return (x >>> 8) % n;
        }
    }

    /** The deeds of a seed by the calls of the face; 'size' is told. */
    private static int replay(CodePlaces y, int n, int seed, int size) {
        Seed d = new Seed(seed);
        int done = 0;
        for (int i = 0; i < n; i++) {
            int why;
            int a;
            switch (d.draw(8)) {
                case 0:
                    a = d.draw(8);
                    why = y.set(a, d.draw(1000));
                    break;
                case 1:
                    a = d.draw(64);
                    why = y.poke(a, d.draw(1000));
                    break;
                case 2:
                    why = y.go(d.draw(size));
                    break;
                case 3:
                case 4:
                    why = y.step();
                    break;
                case 5:
                    why = y.leave();
                    break;
                case 6:
                    why = y.run();
                    break;
                default:
                    a = d.draw(250) + 1;
                    why = y.clear(a) == 0 ? 0 : y.stop(a);
                    break;
            }
            done += why == 0 ? 1 : 0;
        }
        return done;
    }

    private static void sameMachine(String name, CodePlaces x, CodePlaces y) {
        for (int i = 0; i < 6; i++) {
            due(name + " now " + i, x.now(i), y.now(i));
        }
        for (int i = 0; i < 8; i++) {
            due(name + " register " + i, x.register(i), y.register(i));
        }
        for (int i = 0; i < 64; i++) {
            due(name + " memory " + i, x.memory(i), y.memory(i));
        }
    }

    private static void drawnAs(String unit, int size, int n, int seed) {
        CodePlaces x = Bench.unit(unit);
        CodePlaces y = Bench.unit(unit);
        String name = "drawn " + n + " " + seed;
        int done = replay(y, n, seed, size);
        due(name, x.drawn(n, seed), done);
        sameMachine(name, x, y);
        due(name + " undone", x.undo(), done > 0 ? 0 : NONE);
        sameMachine(name + " undone", x, Bench.unit(unit));
    }

    private static void draws() {
        String stopped = "size 3;row 0 1;row 1 250;row 2 1;scope s 0 2 0;";
        for (int s = -40; s <= 40; s++) {
            drawnAs(CODE, 40, 1, s);
            drawnAs(stopped, 3, 1, s);
            drawnAs("size 1;", 1, 1, s);
            drawnAs(CODE, 40, 2, s);
        }
        for (int s : new int[] {0, -1, 1, MIN, MIN + 1, MAX, MAX - 1, 65536, -12345}) {
            drawnAs(CODE, 40, 60, s);
            drawnAs(stopped, 3, 60, s);
            drawnAs("", 256, 60, s);
            drawnAs("size 1;", 1, 59, s);
        }
    }

    private static int seedOf(int first, int second, int of) {
        for (int s = 0; s < 100000; s++) {
            Seed d = new Seed(s);
            if (d.draw(8) == first && (of == 0 || d.draw(of) == second)) {
                return s;
            }
        }
        return 0;
    }

    private static void drawnStops() {
        int seed = seedOf(7, 249, 250);
        CodePlaces x = Bench.unit(CODE);
        due("a stop drawn at 250", x.drawn(1, seed), 1);
        due("there it is", x.stop(250), 1);
        due("cleared by draw", x.drawn(1, seed), 1);
        due("stops", x.now(2), 0);
        seed = seedOf(7, 0, 250);
        due("a stop drawn at 1", x.drawn(1, seed), 1);
        due("there it is", x.stop(1), 1);
        for (int line = 10; line < 17; line++) {
            due("stop", x.stop(line), 0);
        }
        due("no ninth by draw", x.drawn(1, seedOf(7, 249, 250)), 0);
        due("stops", x.now(2), 8);
        due("cleared by draw", x.drawn(1, seed), 1);
        due("stops", x.now(2), 7);
        due("an eighth by draw", x.drawn(1, seedOf(7, 249, 250)), 1);
        due("deeds", x.now(5), 12);
        // not done: SET as it is, GO where it stands
        x = Bench.unit("size 1;");
        due("go where it stands", x.drawn(1, seedOf(2, 0, 1)), 0);
        due("step, leave, run of none", x.drawn(1, seedOf(3, 0, 0)) + x.drawn(1, seedOf(4, 0, 0)) + x.drawn(1, seedOf(5, 0, 0))
            + x.drawn(1, seedOf(6, 0, 0)), 0);
        due("none is undone", x.undo(), NONE);
        due("drawn 60", x.drawn(60, 1) > 0 ? 1 : 0, 1);
        due("drawn 61", x.drawn(61, 1), NONE);
        due("drawn 0", x.drawn(0, 1), NONE);
        due("all are one", x.undo(), 0);
        due("deeds", x.now(5), 0);
    }

    // ---- 38: "Of n (1 to 30) seeds x, x and 1, .. by how many a VAR is there behind 10 DEEDS DRAWN from now on" ----

    private static void odds() {
        for (int n : new int[] {1, 2, 3, 29, 30}) {
            for (int s : new int[] {0, -1, 5, MIN, MAX, MAX - 1, -30}) {
                CodePlaces x = oddsOf(n, s);
                due("odds 0 seeds", x.odds(0, 0, s), NONE);
                due("odds 31 seeds", x.odds(0, 31, s), NONE);
                due("odds of VAR 3", x.odds(3, n, s), NONE);
                due("odds of VAR -1", x.odds(-1, n, s), NONE);
            }
        }
        CodePlaces x = Bench.unit("size 1;scope s 0 1 0;type t 0 1 plain;var v s t;var w s t;where v 0 1 1 value;");
        due("always there", x.odds(0, 30, 1), 30);
        due("never there", x.odds(1, 30, 1), 0);
        due("once there", x.odds(0, 1, 1), 1);
    }

    private static CodePlaces ready() {
        CodePlaces x = Bench.unit(CODE);
        x.stop(21);
        x.set(1, 3);
        x.go(12);
        return x;
    }

    private static CodePlaces oddsOf(int n, int s) {
        int[] there = new int[3];
        for (int i = 0; i < n; i++) {
            CodePlaces y = ready();
            replay(y, 10, s + i, 40);
            for (int v = 0; v < 3; v++) {
                there[v] += y.now(4) >> v & 1;
            }
        }
        CodePlaces x = ready();
        for (int v = 0; v < 3; v++) {
            due("odds " + v + " " + n + " " + s, x.odds(v, n, s), there[v]);
        }
        sameMachine("odds", x, ready());
        return x;
    }

    // ---- 39, 40: "0 why it was WRONG", "how many LINES are ahead of the one that is WRONG (all, if none is)" ----

    private static void wrong(String unit, String text, int line, int why, int ahead, int at, int vars) {
        for (int lives = 0; lives < 2; lives++) {
            CodePlaces x = Bench.unit(unit);
            due("book " + text, Bench.book(x, text, lives), line);
            due("told 0 " + text, x.told(0), why);
            due("told 1 " + text, x.told(1), ahead);
            due("told 2 " + text, x.told(2), at);
            due("told 3 " + text, x.told(3), vars);
            due("told 4", x.told(4), NONE);
            due("told -1", x.told(-1), NONE);
            due("deeds " + text, x.now(5), lives * ahead);
            due("it stands " + text, x.now(0), lives * at);
            due("undo " + text, x.undo(), lives * ahead > 0 ? 0 : NONE);
            due("as at first " + text, x.now(0) + x.now(2) + x.now(5), 0);
        }
    }

    private static void wrong(String text, int line, int why, int ahead, int at, int vars) {
        wrong(CODE, text, line, why, ahead, at, vars);
    }

    private static void wrongLines() {
        wrong("", NONE, 0, 0, 0, 1);
        wrong("set 0 0;", 0, 1, 0, 0, 1);
        wrong("set 7 999;set 7 999;step;", 1, 1, 1, 0, 1);
        wrong("poke 63 0;step;", 0, 11, 0, 0, 1);
        wrong("poke 0 1;poke 0 1;", 1, 11, 1, 0, 1);
        wrong("go 0;", 0, 21, 0, 0, 1);
        wrong("go 39;go 39;", 1, 21, 1, 39, 0);
        wrong("go 39;go 40;", 1, 29, 1, 39, 0);
        wrong("go 999;", 0, 29, 0, 0, 1);
        wrong("size 1;", "go 1;", 0, 29, 0, 0, 0);
        wrong("", "go 255;go 256;", 1, 29, 1, 255, 0);
        wrong("stop 250;stop 250;", 1, 31, 1, 0, 1);
        wrong("stop 1;stop 2;stop 3;stop 4;stop 5;stop 6;stop 7;stop 8;stop 9;", 8, 32, 8, 0, 1);
        wrong("stop 1;stop 2;stop 3;stop 4;stop 5;stop 6;stop 7;stop 8;stop 8;", 8, 31, 8, 0, 1);
        wrong("clear 1;", 0, 41, 0, 0, 1);
        wrong("stop 1;clear 1;clear 1;", 2, 41, 2, 0, 1);
        wrong("go 30;step;", 1, 51, 1, 30, 0);
        wrong("", "leave;", 0, 61, 0, 0, 0);
        wrong("scope s 0 9 0;", "go 9;leave;", 1, 61, 1, 9, 0);
        wrong("leave;", 0, 62, 0, 0, 1);
        wrong("go 14;leave;leave;leave;", 3, 62, 3, 20, 1);
        wrong("run;", 0, 71, 0, 0, 1);
        wrong("stop 10;run;run;", 2, 71, 2, 30, 0);
        wrong("go 14;", NONE, 0, 1, 14, 7);
        wrong("go 14;set 3 60;", NONE, 0, 2, 14, 6);
        wrong("set 0 64;go 14;set 3 60;", NONE, 0, 3, 14, 4);
        wrong("set 1 1;set 1 2;".repeat(20), NONE, 0, 40, 0, 1);
        wrong("set 1 1;set 1 2;".repeat(19) + "step;set 1 2;", 39, 1, 39, 4, 1);
    }

    private static void toldStays() {
        CodePlaces x = Bench.unit(CODE);
        for (int what = 0; what < 4; what++) {
            due("told ahead of any", x.told(what), NONE);
        }
        due("book with a FAULT", Bench.book(x, "step", 1), -6);
        due("told then", x.told(0), NONE);
        due("book 2", x.book(2), -1000);
        due("told then", x.told(1), NONE);
        due("book", Bench.book(x, "step;go 99;", 0), 1);
        int[] told = {29, 1, 4, 1};
        for (int i = 0; i < 3; i++) {
            for (int what = 0; what < 4; what++) {
                due("told " + i, x.told(what), told[what]);
            }
            if (i == 0) {
                due("book with a FAULT", Bench.book(x, "step;step", 1), -11);
                due("book -1", x.book(-1), -1000);
            } else {
                Bench.tape(x, "size 2;");
                due("a new UNIT", x.unit(), 1);
            }
        }
    }

    // ---- 39: "lived as far as it is not WRONG" ----

    private static void lived() {
        CodePlaces x = Bench.unit(CODE);
        due("lived", Bench.book(x, "set 1 5;poke 7 9;stop 12;go 12;run;clear 12;leave;step;", 1), 6);
        int[] now = {20, 12, 0, 0, 1, 6};
        for (int i = 0; i < 6; i++) {
            due("now " + i, x.now(i), now[i]);
        }
        due("register", x.register(1), 5);
        due("memory", x.memory(7), 9);
        due("undone at once", x.undo(), 0);
        sameMachine("undone", x, Bench.unit(CODE));
        due("from where it stands", x.go(4), 0);
        due("lived", Bench.book(x, "step;step;", 1), NONE);
        due("it stands", x.now(0), 14);
        due("judged from there", Bench.book(x, "leave;", 0), NONE);
        due("told", x.told(2), 18);
        due("it stands", x.now(0), 14);
    }

    // ---- 41, 42: 'and' binds closer than 'or', 'not' closer than both; "this is not so of one that is not there, 'not' of it is" ----

    private static int said(CodePlaces x, String text) {
        Bench.sentence(x, text);
        int bits = 0;
        int many = x.said(NONE);
        for (int k = 0; k < many; k++) {
            bits |= 1 << x.said(k);
        }
        due("no more said " + text, x.said(many), NONE);
        return bits;
    }

    private static void conditions() {
        String[] one = {"number=9", "number<9"};
        for (int i = 0; i < 16; i++) {
            CodePlaces x = Bench.unit(CODE);
            int a = i & 1;
            int b = i >> 1 & 1;
            int c = i >> 2 & 1;
            int d = i >> 3 & 1;
            String text = one[a] + " or " + one[b] + " and " + one[c] + " or " + one[d];
            due(text, said(x, text), 7 * (a | b & c | d));
            text = one[a] + " and " + one[b] + " or " + one[c] + " and " + one[d];
            due(text, said(x, text), 7 * (a & b | c & d));
            text = "(" + one[a] + " or " + one[b] + ") and (" + one[c] + " or " + one[d] + ")";
            due(text, said(x, text), 7 * ((a | b) & (c | d)));
            text = "not " + one[a] + " and " + one[b] + " or not " + one[c];
            due(text, said(x, text), 7 * ((1 - a) & b | (1 - c)));
            text = "not (" + one[a] + " and " + one[b] + " or " + one[c] + ") or not not " + one[d];
            due(text, said(x, text), 7 * (1 - (a & b | c) | d));
            text = one[a] + " and not " + one[b] + " and " + one[c];
            due(text, said(x, text), 7 * (a & (1 - b) & c));
        }
        CodePlaces x = Bench.unit(CODE);
        x.go(30);
        due("value of none", said(x, "value<999 or value=0 or value>0"), 0);
        due("not value of none", said(x, "not value<999"), 7);
        due("there", said(x, "there"), 0);
        due("not there", said(x, "not there"), 7);
        due("local", said(x, "local"), 1);
        x.go(18);
        x.set(1, 3);
        due("local at a TO", said(x, "local"), 3);
        x.go(10);
        due("local at a FROM", said(x, "local"), 3);
        x.go(9);
        due("local ahead of it", said(x, "local"), 1);
        x.go(14);
        due("there", said(x, "there"), 7);
        due("value", said(x, "value=0"), 7);
        x.poke(3, 8);
        due("value below 0", said(x, "value<0"), 4);
        due("signed", said(x, "signed"), 4);
        due("not signed", said(x, "not signed"), 3);
    }

    private static void saidEdges() {
        CodePlaces x = Bench.unit(CODE);
        due("no SENTENCE", x.said(NONE), NONE);
        due("no SENTENCE", x.said(0), NONE);
        due("a FAULT", Bench.sentence(x, "there there"), -7);
        due("no SENTENCE", x.said(NONE), NONE);
        due("of all", said(x, "not number=9"), 7);
        for (int k : new int[] {-2, 3, 10, MIN, MAX}) {
            due("said " + k, x.said(k), NONE);
        }
        due("a FAULT", Bench.sentence(x, "there there"), -7);
        due("it stays", x.said(NONE), 3);
        due("of none", said(x, "number=9"), 0);
        due("said 0 of none", x.said(0), NONE);
        // it is said where the machine stands, whenever asked
        Bench.sentence(x, "there");
        due("at 0", x.said(NONE), 1);
        x.go(14);
        due("at 14", x.said(NONE), 3);
        x.undo();
        due("at 0 again", x.said(NONE), 1);
        x = Bench.unit("");
        due("a SENTENCE without VARS", Bench.sentence(x, "there"), 1);
        due("said of none", x.said(NONE), 0);
        due("said 0 of none", x.said(0), NONE);
    }

    // ---- "'within' SCOPE (its SCOPE is that one, or that one is behind it in the CHAIN of its FROM)" ----

    private static void within() {
        CodePlaces x = Bench.unit("scope a 0 30 0;scope b 5 10 0;scope c 5 10 0;scope d 5 6 0;scope e 9 10 0;scope f 20 30 0;type t 0 1 plain;"
            + "var va a t;var vb b t;var vc c t;var vd d t;var ve e t;var vf f t;");
        due("within a", said(x, "within a"), 63);
        due("within b", said(x, "within b"), 2 + 4 + 8 + 16);
        due("within c", said(x, "within c"), 4 + 8 + 16);
        due("within d", said(x, "within d"), 8);
        due("within e", said(x, "within e"), 16);
        due("within f", said(x, "within f"), 32);
        due("not within b", said(x, "not within b"), 33);
        // ten SCOPES that lie in one another, told from the outermost on and from the innermost on
        for (boolean outer : new boolean[] {true, false}) {
            StringBuilder s = new StringBuilder();
            for (int i = 0; i < 10; i++) {
                s.append("scope ").append((char) ('a' + i)).append(outer ? " 5 " + (30 - i) : " 5 " + (20 + i)).append(" 0;");
            }
            x = Bench.unit(s + "type t 0 1 plain;var va a t;var vj j t;");
            due("within the outermost", said(x, outer ? "within a" : "within j"), 3);
            due("within the innermost", said(x, outer ? "within j" : "within a"), outer ? 2 : 1);
        }
    }
}
