/** Each promise of the document by hand: ordinary calls, edges, wrong calls. */
public final class PromiseTests {
    private static final int NONE = CodePlaces.NONE;
    private static final String CODE = "size 40;row 0 10;row 4 11;row 10 20;row 14 21;row 20 12;row 30 10;"
        + "scope main 0 40 0;scope inl 10 20 11;scope deep 14 18 20;"
        + "type word 0 16 plain;type byte 4 8 plain;type low 0 4 signed;"
        + "var a main word;var b inl byte;var c deep low;"
        + "where a 0 10 in 2;where a 10 30 reg 3 5 plus;where b 10 14 7 reg 1 times value;where b 14 20 reg 0 load load;where c 14 16 3;";
    /** A scope, a type of 16 bits and a VAR in it, to put a 'where' behind. */
    private static final String HEAD = "scope s 0 10 0;type t 0 16 plain;var v s t;";

    private PromiseTests() {
    }

    public static void main(String[] args) {
        newObject();
        feedAndEnd();
        unitAndFault();
        rowsScopesVars();
        linesAndAddresses();
        chains();
        valuesAndWhy();
        now();
        setAndPoke();
        goStopClear();
        stepLeaveRun();
        undo();
        packed();
        unpacked();
        coverAndLongest();
        tags();
        drawn();
        odds();
        books();
        sentences();
        images();
        count();
        Bench.finish("PromiseTests");
    }

    private static void due(String call, long got, long want) {
        Bench.due(call, got, want);
    }

    private static void due(String call, boolean got, boolean want) {
        Bench.due(call, got, want);
    }

    private static void dueText(String call, String got, String want) {
        Bench.due(call + " '" + got + "' for '" + want + "'", got.equals(want), true);
    }

    // ---- 1 ----

    private static void newObject() {
        CodePlaces x = new CodePlaces();
        due("NONE", CodePlaces.NONE, -1);
        int[] counts = {256, 0, 0, 0, 0, 0, 0};
        for (int i = 0; i < counts.length; i++) {
            due("new count " + i, x.count(i), counts[i]);
        }
        int[] now = {0, NONE, 0, NONE, 0, 0};
        for (int i = 0; i < now.length; i++) {
            due("new now " + i, x.now(i), now[i]);
        }
        due("new fault", x.fault(), 0);
        due("new said", x.said(NONE), NONE);
        due("new undo", x.undo(), NONE);
        due("new chainAt", x.chainAt(0), NONE);
        due("new chainLine", x.chainLine(0), NONE);
        due("new packedAt", x.packedAt(0), NONE);
        due("new unpackedAt", x.unpackedAt(0, 0), NONE);
        due("new byteAt", x.byteAt(0), NONE);
        due("new told", x.told(0), NONE);
    }

    // ---- 2, 3 ----

    private static void feedAndEnd() {
        CodePlaces x = new CodePlaces();
        for (int i = 1; i <= 47; i++) {
            due("feed " + i, x.feed(0, 0, 0, 0, 0), 20 * i);
        }
        due("feed of too many", x.feed(0, 0, 0, 0, 0), NONE);
        due("tape after too many", x.count(6), 940);
        due("end of too many", x.end(941), false);
        due("end below 0", x.end(-1), false);
        due("tape stays", x.count(6), 940);
        due("end of all", x.end(940), true);
        due("end 921", x.end(921), true);
        due("feed to 941", x.feed(1, 2, 3, 4, 5), NONE);
        due("end 920", x.end(920), true);
        due("feed to 940", x.feed(1, 2, 3, 4, 5), 940);
        due("end 0", x.end(0), true);
        due("tape", x.count(6), 0);
        due("end of none", x.end(1), false);
        // the highest byte of each number comes first: 2, -1 as 255
        Bench.tape(x, 2, 255, 1, 0);
        due("unpacked", x.unpacked(), 1);
        due("unpacked address", x.unpackedAt(0, 0), 255);
    }

    // ---- 4, 5 ----

    private static void unitAndFault() {
        CodePlaces x = Bench.unit(CODE);
        due("tape is empty", x.count(6), 0);
        due("fault", x.fault(), 0);
        Bench.tape(x, "row 1 2;row 2 3");
        due("unit with a FAULT", x.unit(), -16);
        due("its fault", x.fault(), 1);
        due("tape is empty with a FAULT", x.count(6), 0);
        due("it stays", x.count(1), 6);
        due("empty unit", x.unit(), 0);
        due("fault of it", x.fault(), 0);
        due("size of it", x.count(0), 256);
        Bench.tape(x, "size\n7 ;\n row 6 007 ;");
        due("lines", x.unit(), 2);
        due("line of 007", x.lineAt(6), 7);
        faultsOfTokens();
        faultsOfNumbers();
        faultsOfNames();
        faultsOfCounts();
        faultsOfExprs();
        newUnitForgets();
    }

    private static void faultsOfTokens() {
        Bench.unitFault("row 0", 5, 1);
        Bench.unitFault("row 0 1", 7, 1);
        Bench.unitFault("row 0 1  \n", 10, 1);
        Bench.unitFault("row 0 1 2;", 8, 1);
        Bench.unitFault(";", 0, 1);
        Bench.unitFault("row 0 1;;", 8, 1);
        Bench.unitFault("row 0 1; lines 3;", 9, 1);
        Bench.unitFault("row 0 1.", 7, 1);
        Bench.unitFault("row0 1;", 0, 1);
        Bench.unitFault("row 0 1a;", 6, 1);
        Bench.unitFault("row 0 1000;", 6, 1);
        Bench.unitFault("Row 0 1;", 0, 1);
        Bench.unitFault("row\t0 1;", 3, 1);
        Bench.unitFault("row -1 1;", 4, 1);
        Bench.unitFault("row \u00ff 1;", 4, 1);
        Bench.unitFault("scope abcdefgh 0 1 0;", 6, 1);
        Bench.unitFault("scope row 0 1 0;", 6, 1);
        Bench.unitFault("scope poke 0 1 0;", 6, 1);
        Bench.unitFault("scope within 0 1 0;", 6, 1);
        Bench.unitFault("scope 5 0 1 0;", 6, 1);
        Bench.unitFault("type t 0 8 load;", 11, 1);
        Bench.unitFault(HEAD + "where v 0 1 in;", HEAD.length() + 14, 1);
        Bench.unitFault(HEAD + "var w load t;", HEAD.length() + 6, 1);
        CodePlaces x = Bench.unit("scope abcdefg 0 1 0;");
        due("a NAME of 7", x.count(2), 1);
        long900();
    }

    private static void long900() {
        String row = "row 0 1;";
        Bench.unitFault(row + " ".repeat(893), 900, 1);
        Bench.unitFault(" ".repeat(901), 900, 1);
        Bench.unitFault(" ".repeat(892) + row + " ", 900, 1);
        // the row's last TOKENS begin ahead of 900 or behind it
        Bench.unitFault(" ".repeat(893) + row, 900, 1);
        Bench.unitFault(" ".repeat(895) + "row" + " ".repeat(10), 900, 1);
        Bench.unitFault(" ".repeat(897) + "row x", 900, 1);
        Bench.unitFault(" ".repeat(898) + "rows 0 1;", 898, 1);
        Bench.unitFault(" ".repeat(894) + "row 0 251;", 900, 1);
        Bench.unitFault(" ".repeat(893) + "row 0 251;", 899, 2);
        CodePlaces x = new CodePlaces();
        Bench.tape(x, " ".repeat(892) + row);
        due("900 bytes", x.unit(), 1);
    }

    private static void faultsOfNumbers() {
        Bench.unitFault("size 0;", 5, 2);
        Bench.unitFault("size 257;", 5, 2);
        Bench.unitFault("row 256 1;", 4, 2);
        Bench.unitFault("size 9;row 9 1;", 11, 2);
        Bench.unitFault("row 0 0;", 6, 2);
        Bench.unitFault("row 0 251;", 6, 2);
        Bench.unitFault("scope s 5 5 0;", 10, 2);
        Bench.unitFault("scope s 5 4 0;", 10, 2);
        Bench.unitFault("scope s 0 257 0;", 10, 2);
        Bench.unitFault("size 9;scope s 0 10 0;", 17, 2);
        Bench.unitFault("size 9;scope s 9 10 0;", 15, 2);
        Bench.unitFault("scope s 0 9 251;", 12, 2);
        Bench.unitFault("type t 16 1 plain;", 7, 2);
        Bench.unitFault("type t 0 0 plain;", 9, 2);
        Bench.unitFault("type t 0 17 plain;", 9, 2);
        Bench.unitFault("type t 15 2 plain;", 10, 2);
        Bench.unitFault(HEAD + "where v 3 3 1;", HEAD.length() + 10, 2);
        Bench.unitFault(HEAD + "where v 0 5 in 8;", HEAD.length() + 15, 2);
        Bench.unitFault(HEAD + "where v 0 5 reg 8;", HEAD.length() + 16, 2);
        CodePlaces x = Bench.unit("size 256;row 255 250;scope s 255 256 250;type t 15 1 plain;type u 0 16 signed;var v s t;where v 255 256 999;");
        due("a large UNIT", x.count(5), 1);
        due("the least size", Bench.unit("size 1;row 0 1;").row(0, 2), 1);
    }

    private static void faultsOfNames() {
        Bench.unitFault("row 1 1;size 5;", 8, 3);
        Bench.unitFault("size 5;size 5;", 7, 3);
        Bench.unitFault("row 1 1;row 2 2;row 1 3;", 20, 3);
        Bench.unitFault("scope s 0 1 0;scope s 0 1 0;", 20, 3);
        Bench.unitFault("scope s 0 1 0;type s 0 1 plain;", 19, 3);
        Bench.unitFault(HEAD + "scope v 0 1 0;", HEAD.length() + 6, 3);
        Bench.unitFault(HEAD + "var w x t;", HEAD.length() + 6, 3);
        Bench.unitFault(HEAD + "var w t t;", HEAD.length() + 6, 3);
        Bench.unitFault(HEAD + "var w s s;", HEAD.length() + 8, 3);
        Bench.unitFault(HEAD + "var w s w;", HEAD.length() + 8, 3);
        Bench.unitFault(HEAD + "where s 0 1 1;", HEAD.length() + 6, 3);
        Bench.unitFault("scope s 0 10 0;scope t 5 15 0;", 25, 3);
        Bench.unitFault("scope s 5 15 0;scope t 0 6 0;", 25, 3);
        Bench.unitFault(HEAD + "where v 0 11 1;", HEAD.length() + 10, 3);
        Bench.unitFault(HEAD + "where v 10 11 1;", HEAD.length() + 11, 3);
        Bench.unitFault(HEAD + "where v 0 5 1;where v 4 6 2;", HEAD.length() + 24, 3);
        Bench.unitFault(HEAD + "where v 3 5 1;where v 0 9 2;", HEAD.length() + 24, 3);
        CodePlaces x = Bench.unit(HEAD + "scope u 0 10 0;scope w 3 10 0;scope y 10 20 0;where v 0 5 1;where v 5 10 2;");
        due("like SCOPES", x.count(2), 4);
        due("'where' side by side", x.count(5), 2);
    }

    private static String lines(String text, int many) {
        StringBuilder all = new StringBuilder();
        for (int i = 0; i < many; i++) {
            all.append(text.replace("@", "" + (char) ('a' + i)).replace("#", "" + i));
        }
        return all.toString();
    }

    private static void faultsOfCounts() {
        String rows = lines("row # 1;", 30);
        due("30 rows", Bench.unit(rows).count(1), 30);
        Bench.unitFault(rows + "row 0 1;", rows.length(), 4);
        Bench.unitFault(rows + " row;", rows.length() + 1, 4);
        String scopes = lines("scope @ 0 9 0;", 10);
        due("10 scopes", Bench.unit(scopes).count(2), 10);
        Bench.unitFault(scopes + "scope z 0 9 0;", scopes.length(), 4);
        String types = lines("type @ 0 9 plain;", 6);
        due("6 types", Bench.unit(types).count(3), 6);
        Bench.unitFault(types + "type z 0 9 plain;", types.length(), 4);
        String vars = HEAD + lines("var @ s t;", 9);
        due("10 vars", Bench.unit(vars).count(4), 10);
        Bench.unitFault(vars + "var z s t;", vars.length(), 4);
        String two = "scope s 0 16 0;type t 0 16 plain;var v s t;var w s t;";
        StringBuilder where = new StringBuilder(two);
        for (int i = 0; i < 16; i++) {
            where.append("where ").append(i % 2 == 0 ? "v " : "w ").append(i).append(' ').append(i + 1).append(" 1;");
        }
        due("16 where", Bench.unit(where.toString()).count(5), 16);
        Bench.unitFault(where + "where v 1 2 1;", where.length(), 4);
    }

    private static void faultsOfExprs() {
        String where = HEAD + "where v 0 5 ";
        int at = where.length();
        Bench.unitFault(where + ";", at, 1);
        Bench.unitFault(where + "value;", at, 1);
        Bench.unitFault(where + "v;", at, 1);
        Bench.unitFault(where + "1 value 2;", at + 8, 1);
        Bench.unitFault(where + "in 1 value;", at + 5, 1);
        Bench.unitFault(where + "1 in 1;", at + 2, 1);
        Bench.unitFault(where + "plus;", at, 5);
        Bench.unitFault(where + "1 plus;", at + 2, 5);
        Bench.unitFault(where + "1 minus;", at + 2, 5);
        Bench.unitFault(where + "1 times;", at + 2, 5);
        Bench.unitFault(where + "1 swap;", at + 2, 5);
        Bench.unitFault(where + "load;", at, 5);
        Bench.unitFault(where + "dup;", at, 5);
        Bench.unitFault(where + "1 2 plus swap;", at + 9, 5);
        Bench.unitFault(where + "1 2 3 4 5 6 7 8 9;", at + 16, 4);
        Bench.unitFault(where + "1 2 3 4 5 6 7 8 reg 9;", at + 16, 4);
        Bench.unitFault(where + "1 1 plus 1 plus 1 plus 1 plus;", at + 25, 4);
        Bench.unitFault(where + "1 load load load load load load load plus;", at + 37, 4);
        Bench.unitFault(where + "1 2 3 4 5 6 7 8 with;", at + 16, 1);
        Bench.unitFault(HEAD + "where v 0 1 1 2 3;where v 1 2 1 plus;", HEAD.length() + 32, 5);
        // the first of two
        Bench.unitFault(where + "reg 8 foo;", at + 4, 2);
        Bench.unitFault(where + "in 8 foo;", at + 3, 2);
        Bench.unitFault("row 0 0;row 0 0;row;", 6, 2);
        due("8 OPS and value", Bench.unit(where + "1 reg 2 3 4 5 6 7 8 value;").value(0, 0), 8);
        due("1 dup plus", Bench.unit(where + "1 dup plus value;").value(0, 0), 2);
    }

    private static void newUnitForgets() {
        CodePlaces x = Bench.unit(CODE);
        x.set(1, 5);
        x.poke(3, 5);
        x.stop(10);
        x.go(15);
        x.chain(15);
        x.packed();
        x.tag(0);
        Bench.book(x, "step;", 0);
        Bench.sentence(x, "there");
        Bench.tape(x, "row 1 1 1;");
        x.unit();
        due("a FAULT changes nothing", x.now(5), 4);
        due("SENTENCE stays with a FAULT", x.said(NONE), 3);
        x.unit();
        due("register is as at first", x.register(1), 0);
        due("memory is as at first", x.memory(3), 0);
        due("stops are as at first", x.now(2), 0);
        due("ADDRESS is as at first", x.now(0), 0);
        due("deeds are as at first", x.now(5), 0);
        due("no SENTENCE", x.said(NONE), NONE);
        due("nothing can be undone", x.undo(), NONE);
        due("chain stays", x.chainAt(2), 0);
        due("packed stays", x.packedAt(0), 3);
        due("tag stays", x.byteAt(0), 'a');
        due("told stays", x.told(1), 1);
    }

    // ---- 6, 7, 8, 9 ----

    private static void rowsScopesVars() {
        CodePlaces x = Bench.unit("size 30;row 20 5;row 3 7;row 9 5;row 29 1;");
        int[][] rows = {{3, 7, 6}, {9, 5, 11}, {20, 5, 9}, {29, 1, 1}};
        for (int k = 0; k < 4; k++) {
            for (int what = 0; what < 3; what++) {
                due("row " + k + " " + what, x.row(k, what), rows[k][what]);
            }
        }
        due("row 4", x.row(4, 0), NONE);
        due("row -1", x.row(-1, 0), NONE);
        due("row what 3", x.row(0, 3), NONE);
        due("row what -1", x.row(0, -1), NONE);
        x = Bench.unit(CODE + "var d main low;");
        int[][] scopes = {{0, 40, 0, NONE, 9}, {10, 20, 11, 0, 2}, {14, 18, 20, 1, 4}};
        for (int s = 0; s < 3; s++) {
            for (int what = 0; what < 5; what++) {
                due("scope " + s + " " + what, x.scope(s, what), scopes[s][what]);
            }
        }
        due("scope 3", x.scope(3, 0), NONE);
        due("scope -1", x.scope(-1, 0), NONE);
        due("scope what 5", x.scope(0, 5), NONE);
        due("scope what -1", x.scope(0, -1), NONE);
        int[][] vars = {{0, 0, 2, 0, 16, 0}, {1, 1, 2, 4, 8, 0}, {2, 2, 1, 0, 4, 1}, {0, 2, 0, 0, 4, 1}};
        for (int v = 0; v < 4; v++) {
            for (int what = 0; what < 6; what++) {
                due("var " + v + " " + what, x.var(v, what), vars[v][what]);
            }
        }
        due("var 4", x.var(4, 0), NONE);
        due("var -1", x.var(-1, 0), NONE);
        due("var what 6", x.var(0, 6), NONE);
        due("var what -1", x.var(0, -1), NONE);
        int[][] places = {{0, 0, 0}, {0, 9, 0}, {0, 10, 1}, {0, 29, 1}, {0, 30, NONE}, {1, 9, NONE}, {1, 13, 2}, {1, 14, 3}, {2, 15, 4},
            {2, 16, NONE}, {3, 0, NONE}, {4, 0, NONE}, {-1, 0, NONE}, {0, -1, NONE}, {0, 40, NONE}};
        for (int[] p : places) {
            due("placeOf " + p[0] + " " + p[1], x.placeOf(p[0], p[1]), p[2]);
        }
        likeScopes();
    }

    private static void likeScopes() {
        CodePlaces x = Bench.unit("scope a 5 9 1;scope b 5 9 2;scope c 5 7 3;scope d 0 9 4;scope e 5 9 5;");
        int[] behind = {3, 0, 4, NONE, 1};
        for (int s = 0; s < 5; s++) {
            due("scope behind " + s, x.scope(s, 3), behind[s]);
        }
        due("chain of like ones", x.chain(6), 5);
        int[] chain = {2, 4, 1, 0, 3};
        for (int k = 0; k < 5; k++) {
            due("chain of like ones " + k, x.chainAt(k), chain[k]);
        }
    }

    // ---- 10, 11 ----

    private static void linesAndAddresses() {
        CodePlaces x = Bench.unit("size 30;row 20 5;row 3 7;row 9 5;");
        int[][] lines = {{-1, NONE}, {0, NONE}, {2, NONE}, {3, 7}, {8, 7}, {9, 5}, {19, 5}, {20, 5}, {29, 5}, {30, NONE}};
        for (int[] l : lines) {
            due("lineAt " + l[0], x.lineAt(l[0]), l[1]);
        }
        due("addressOf 5 0", x.addressOf(5, 0), 9);
        due("addressOf 5 1", x.addressOf(5, 1), 20);
        due("addressOf 5 2", x.addressOf(5, 2), NONE);
        due("addressOf 5 -1", x.addressOf(5, -1), NONE);
        due("addressOf 7 0", x.addressOf(7, 0), 3);
        due("addressOf 6 0", x.addressOf(6, 0), NONE);
        due("addressOf NONE", x.addressOf(NONE, 0), NONE);
    }

    // ---- 12, 13, 14 ----

    private static void chains() {
        CodePlaces x = Bench.unit(CODE);
        due("chain 15", x.chain(15), 3);
        int[][] chain = {{2, 21}, {1, 20}, {0, 11}};
        for (int k = 0; k < 3; k++) {
            due("chainAt " + k, x.chainAt(k), chain[k][0]);
            due("chainLine " + k, x.chainLine(k), chain[k][1]);
        }
        due("chainAt 3", x.chainAt(3), NONE);
        due("chainLine 3", x.chainLine(3), NONE);
        due("chainAt -1", x.chainAt(-1), NONE);
        due("chain 40", x.chain(40), NONE);
        due("chain -1", x.chain(-1), NONE);
        due("chain stays", x.chainAt(2), 0);
        due("chain 18", x.chain(18), 2);
        due("chainLine at 18", x.chainLine(0), 21);
        x = Bench.unit("row 5 9;scope a 0 9 7;scope b 2 4 0;");
        due("chain without a LINE", x.chain(3), 2);
        due("its first line", x.chainLine(0), NONE);
        due("its other line", x.chainLine(1), 0);
        due("chain of none", x.chain(9), 0);
        due("chainAt of none", x.chainAt(0), NONE);
        due("chainLine of none", x.chainLine(0), NONE);
    }

    // ---- 15, 16 ----

    private static int valueOf(String type, String expr, int register, int memory) {
        CodePlaces x = Bench.unit("scope s 0 10 0;type t " + type + ";var v s t;where v 0 5 " + expr + ";");
        x.set(1, register);
        x.poke(3, memory);
        due("why and value of " + expr, Bench.answer(() -> x.value(0, 4)) == Bench.THROWN, x.why(0, 4) != 0);
        return x.why(0, 4) == 0 ? x.value(0, 4) : -1000000 - x.why(0, 4);
    }

    private static void valuesAndWhy() {
        String word = "0 16 plain";
        due("in", valueOf(word, "in 1", 65535, 0), 65535);
        due("a place", valueOf(word, "3", 0, 4711), 4711);
        due("a number", valueOf(word, "3 value", 0, 4711), 3);
        due("plus", valueOf(word, "reg 1 7 plus value", 8, 0), 15);
        due("minus", valueOf(word, "reg 1 7 minus value", 18, 0), 11);
        due("minus below 0", valueOf(word, "7 reg 1 minus value", 8, 0), 65535);
        due("times", valueOf(word, "reg 1 7 times value", 8, 0), 56);
        due("times wraps", valueOf(word, "reg 1 dup times dup times value", 65535, 0), 1);
        due("load", valueOf(word, "3 load value", 0, 9), 9);
        due("load load", valueOf(word, "3 load load value", 0, 3), 3);
        due("dup", valueOf(word, "reg 1 dup plus value", 8, 0), 16);
        due("swap", valueOf(word, "reg 1 100 swap minus value", 8, 0), 92);
        due("the one on top", valueOf(word, "5 6 value", 0, 0), 6);
        due("bits from 4 on", valueOf("4 8 plain", "in 1", 0xabcd, 0), 0xbc);
        due("bits signed", valueOf("4 8 signed", "in 1", 0xabcd, 0), 0xbc - 256);
        due("bits signed, not below 0", valueOf("4 7 signed", "in 1", 0xabcd, 0), 0x3c);
        due("one bit", valueOf("15 1 signed", "in 1", 32768, 0), -1);
        due("16 bits signed", valueOf("0 16 signed", "in 1", 32768, 0), -32768);
        due("load at none", valueOf(word, "reg 1 load value", 64, 0), -1000002);
        due("load below 0", valueOf(word, "0 1 minus load", 0, 0), -1000002);
        due("load of all", valueOf(word, "63 load value", 0, 0), 0);
        due("place is none", valueOf(word, "reg 1", 64, 0), -1000003);
        due("place below 0", valueOf(word, "0 reg 1 minus", 1, 0), -1000003);
        CodePlaces x = Bench.unit(CODE);
        due("left out", x.why(0, 30), 1);
        due("why of no VAR", x.why(3, 0), NONE);
        due("why of VAR -1", x.why(-1, 0), NONE);
        due("why at none", x.why(0, 40), NONE);
        due("why at -1", x.why(0, -1), NONE);
        int[][] none = {{0, 30}, {3, 0}, {-1, 0}, {0, 40}, {0, -1}};
        for (int[] n : none) {
            due("value " + n[0] + " " + n[1], Bench.answer(() -> x.value(n[0], n[1])), Bench.THROWN);
        }
    }

    // ---- 17 ----

    private static void now() {
        CodePlaces x = Bench.unit(CODE);
        x.set(1, 9);
        x.stop(3);
        x.stop(4);
        x.go(15);
        int[] now = {15, 21, 2, 2, 7, 4};
        for (int i = 0; i < now.length; i++) {
            due("now " + i, x.now(i), now[i]);
        }
        due("now 6", x.now(6), NONE);
        due("now -1", x.now(-1), NONE);
        x.go(35);
        due("VARS at 35", x.now(4), 0);
        due("SCOPE at 35", x.now(3), 0);
        due("refused", x.go(35), 1);
        due("deeds", x.now(5), 5);
        Bench.book(x, "step;set 1 3;step;", 1);
        due("deeds by a book", x.now(5), 5);
        Bench.book(x, "set 1 3;set 2 3;step;", 1);
        due("deeds by a book", x.now(5), 7);
        int done = x.drawn(60, 3);
        due("deeds by draws", x.now(5), 7 + done);
        x.undo();
        due("deeds undone", x.now(5), 7);
        x.undo();
        due("deeds undone", x.now(5), 5);
    }

    // ---- 18 to 21 ----

    private static void setAndPoke() {
        CodePlaces x = new CodePlaces();
        due("poke place 0", x.poke(0, 5), 0);
        due("poke 0", x.poke(0, 0), 0);
        due("set", x.set(7, 65535), 0);
        due("register", x.register(7), 65535);
        due("set so", x.set(7, 65535), 1);
        due("set 8", x.set(8, 1), NONE);
        due("set -1", x.set(-1, 1), NONE);
        due("set below 0", x.set(0, -1), NONE);
        due("set above", x.set(0, 65536), NONE);
        due("set 0", x.set(0, 0), 1);
        due("register 8", x.register(8), NONE);
        due("register -1", x.register(-1), NONE);
        due("poke", x.poke(63, 65535), 0);
        due("memory", x.memory(63), 65535);
        due("poke so", x.poke(63, 65535), 1);
        due("poke 64", x.poke(64, 1), NONE);
        due("poke -1", x.poke(-1, 1), NONE);
        due("poke below 0", x.poke(0, -1), NONE);
        due("poke above", x.poke(0, 65536), NONE);
        due("memory 64", x.memory(64), NONE);
        due("memory -1", x.memory(-1), NONE);
        due("deeds", x.now(5), 4);
    }

    // ---- 22 to 24 ----

    private static void goStopClear() {
        CodePlaces x = Bench.unit("size 9;");
        due("go where it stands", x.go(0), 1);
        due("go", x.go(8), 0);
        due("it stands there", x.now(0), 8);
        due("go 9", x.go(9), NONE);
        due("go -1", x.go(-1), NONE);
        for (int i = 0; i < 8; i++) {
            due("stop", x.stop(250 - i), 0);
        }
        due("stops", x.now(2), 8);
        due("stop at all", x.stop(1), 2);
        due("stop that is", x.stop(250), 1);
        due("stop 0", x.stop(0), NONE);
        due("stop 251", x.stop(251), NONE);
        due("clear none", x.clear(1), 1);
        due("clear", x.clear(247), 0);
        due("clear again", x.clear(247), 1);
        due("stops", x.now(2), 7);
        due("stop", x.stop(1), 0);
        due("clear 0", x.clear(0), NONE);
        due("clear 251", x.clear(251), NONE);
    }

    // ---- 25 to 27 ----

    private static void stepLeaveRun() {
        CodePlaces x = Bench.unit("size 60;row 2 5;row 4 5;row 6 6;row 8 6;row 20 6;row 30 7;row 40 6;row 44 6;row 58 9;"
            + "scope a 5 50 1;scope b 7 10 2;scope c 8 10 3;scope d 42 50 4;");
        due("step from no LINE", x.step(), 0);
        due("it stands at", x.now(0), 2);
        due("step over a like line", x.step(), 0);
        due("it stands at", x.now(0), 6);
        due("step over like lines in its SCOPE", x.step(), 0);
        due("it stands at", x.now(0), 30);
        x.go(9);
        due("step out of the innermost SCOPE", x.step(), 0);
        due("it stands at", x.now(0), 20);
        x.go(41);
        due("step out of a SCOPE", x.step(), 0);
        due("it stands at", x.now(0), 58);
        due("step of none", x.step(), 1);
        due("leave none", x.leave(), 1);
        x.go(8);
        due("leave", x.leave(), 0);
        due("it stands at", x.now(0), 10);
        due("leave the outer one", x.leave(), 0);
        due("it stands at", x.now(0), 50);
        due("run without stops", x.run(), 1);
        x.stop(6);
        due("run of none ahead", x.run(), 1);
        x.go(6);
        due("run to a like line", x.run(), 0);
        due("it stands at", x.now(0), 8);
        x.stop(7);
        x.clear(6);
        due("run", x.run(), 0);
        due("it stands at", x.now(0), 30);
        x = Bench.unit("size 9;scope a 0 9 0;");
        due("leave to no ADDRESS", x.leave(), 2);
    }

    // ---- 28 ----

    private static void undo() {
        CodePlaces x = Bench.unit(CODE);
        due("set", x.set(1, 5), 0);
        due("poke", x.poke(1, 5), 0);
        due("stop", x.stop(10), 0);
        due("go", x.go(20), 0);
        due("refused", x.go(20), 1);
        due("not told", x.go(99), NONE);
        due("run", x.run(), 0);
        due("undo run", x.undo(), 4);
        due("it stands at", x.now(0), 20);
        due("undo go", x.undo(), 3);
        due("undo stop", x.undo(), 2);
        due("stops", x.now(2), 0);
        due("undo poke", x.undo(), 1);
        due("memory", x.memory(1), 0);
        due("undo set", x.undo(), 0);
        due("register", x.register(1), 0);
        due("undo none", x.undo(), NONE);
        for (int i = 1; i <= 9; i++) {
            x.set(0, i);
        }
        for (int i = 8; i >= 1; i--) {
            due("undo one of 8", x.undo(), i - 1);
            due("register then", x.register(0), i);
        }
        due("undo the ninth", x.undo(), NONE);
        due("deeds then", x.now(5), 1);
        undoOfMany();
    }

    private static void undoOfMany() {
        CodePlaces x = Bench.unit(CODE);
        x.stop(20);
        x.step();
        x.leave();
        Bench.book(x, "set 1 1;set 2 2;go 5;", 1);
        Bench.book(x, "set 3 3;", 0);
        Bench.book(x, "go 5;", 1);
        Bench.book(x, "", 1);
        due("undo a book", x.undo(), 2);
        due("its deeds", x.now(5), 2);
        due("register", x.register(1), 0);
        x.clear(20);
        due("undo clear", x.undo(), 2);
        due("stops", x.now(2), 1);
        due("drawn", x.drawn(30, 7) > 0, true);
        due("undo drawn", x.undo(), 2);
        due("deeds", x.now(5), 2);
        int seed = seedOfNothing();
        CodePlaces y = Bench.unit("size 1;");
        due("a draw that does nothing", y.drawn(1, seed), 0);
        due("is not undone", y.undo(), NONE);
    }

    /** A seed whose first deed is a STEP: none in a UNIT without rows. */
    private static int seedOfNothing() {
        for (int seed = 0; seed < 1000; seed++) {
            if ((seed * 1103515245 + 12345 >>> 8) % 8 == 3) {
                return seed;
            }
        }
        return 0;
    }

    // ---- 29, 30 ----

    private static void packedAs(String rows, int... bytes) {
        CodePlaces x = Bench.unit(rows);
        due("packed " + rows, x.packed(), bytes.length + 1);
        for (int i = 0; i < bytes.length; i++) {
            due("packedAt " + i + " of " + rows, x.packedAt(i), bytes[i]);
        }
        due("end of " + rows, x.packedAt(bytes.length), 0);
        due("behind " + rows, x.packedAt(bytes.length + 1), NONE);
        due("ahead of " + rows, x.packedAt(-1), NONE);
        byte[] all = new byte[bytes.length + 1];
        for (int i = 0; i < bytes.length; i++) {
            all[i] = (byte) bytes[i];
        }
        int[] tape = new int[all.length];
        for (int i = 0; i < all.length; i++) {
            tape[i] = all[i];
        }
        Bench.tape(x, tape);
        due("unpacked " + rows, x.unpacked(), x.count(1));
        for (int k = 0; k < x.count(1); k++) {
            due("address of row " + k, x.unpackedAt(k, 0), x.row(k, 0));
            due("line of row " + k, x.unpackedAt(k, 1), x.row(k, 1));
        }
    }

    private static void packed() {
        packedAs("");
        packedAs("row 0 1;", 1);
        packedAs("row 0 2;", 15);
        packedAs("row 0 8;", 21);
        packedAs("row 0 9;", 3, 0, 1, 21);
        packedAs("row 1 1;", 26);
        packedAs("row 19 8;", 249);
        packedAs("row 20 2;", 255);
        packedAs("row 20 3;", 4, 52);
        packedAs("row 21 1;", 4, 62);
        packedAs("row 17 1;", 218);
        packedAs("row 37 2;", 4, 255);
        packedAs("row 38 2;", 2, 18, 255);
        packedAs("row 255 1;", 2, 235, 254);
        packedAs("row 0 250;", 3, 0, 242, 21);
        packedAs("row 20 250;", 3, 0, 248, 255);
        packedAs("row 9 1;row 5 9;", 3, 0, 1, 81, 3, 255, 241, 69);
        CodePlaces x = Bench.unit("row 1 1;");
        x.packed();
        Bench.tape(x, "row 0 1;");
        x.unit();
        due("the latest packed", x.packedAt(0), 26);
    }

    // ---- 31, 32 ----

    private static void refused(int place, int... bytes) {
        CodePlaces x = new CodePlaces();
        Bench.tape(x, 26, 0);
        due("a program", x.unpacked(), 1);
        Bench.tape(x, bytes);
        due("refused " + java.util.Arrays.toString(bytes), x.unpacked(), -1 - place);
        due("tape is empty", x.count(6), 0);
        due("the latest stays", x.unpackedAt(0, 0), 1);
    }

    private static void unpacked() {
        refused(0);
        refused(1, 1);
        for (int op = 5; op < 10; op++) {
            refused(1, 1, op, 0);
        }
        refused(0, 2);
        refused(1, 1, 3);
        refused(1, 1, 3, 0);
        refused(4, 2, 240, 2, 15, 4, 0);
        refused(2, 2, 255, 26, 0);
        refused(2, 2, 255, 2, 1, 0);
        refused(1, 1, 1, 0);
        refused(1, 1, 15, 0);
        refused(0, 13, 0);
        refused(3, 3, 255, 255, 1, 0);
        refused(3, 3, 0, 250, 1, 0);
        refused(2, 1, 0, 0);
        refused(1, 0, 7);
        int[] rows = new int[32];
        java.util.Arrays.fill(rows, 26);
        rows[31] = 0;
        refused(30, rows);
        CodePlaces x = new CodePlaces();
        rows[30] = 0;
        Bench.tape(x, java.util.Arrays.copyOf(rows, 31));
        due("30 rows", x.unpacked(), 30);
        due("the last one", x.unpackedAt(29, 0), 30);
        due("behind it", x.unpackedAt(30, 0), NONE);
        due("ahead of all", x.unpackedAt(-1, 0), NONE);
        due("what 2", x.unpackedAt(0, 2), NONE);
        due("what -1", x.unpackedAt(0, -1), NONE);
        Bench.tape(x, 3, 127, 255, 3, 128, 250, 4, 2, 3, 1, 10, 0);
        due("not above", x.unpacked(), -11);
        Bench.tape(x, 3, 127, 255, 3, 128, 250, 4, 2, 3, 1, 22, 0);
        due("lines up and down", x.unpacked(), 2);
        due("address", x.unpackedAt(0, 0), 20);
        due("line", x.unpackedAt(0, 1), 250);
        due("address", x.unpackedAt(1, 0), 21);
        due("line", x.unpackedAt(1, 1), 246);
        Bench.tape(x, 3, 128, 0, 3, 127, 255, 3, 0, 5, 1, 0);
        due("less 32768", x.unpacked(), 1);
        due("line", x.unpackedAt(0, 1), 5);
        Bench.tape(x, 0);
        due("no rows", x.unpacked(), 0);
        due("none of it", x.unpackedAt(0, 0), NONE);
    }

    // ---- 33, 34 ----

    private static void coverAndLongest() {
        CodePlaces x = Bench.unit(CODE + "var d inl low;var e deep low;where e 14 18 1;");
        int[][] cover = {{3, 4}, {1, 1}, {1, 2}, {0, 1}, {1, 1}};
        for (int v = 0; v < 5; v++) {
            due("cover above " + v, x.cover(v, 0), cover[v][0]);
            due("cover below " + v, x.cover(v, 1), cover[v][1]);
        }
        due("cover of no VAR", Bench.answer(() -> x.cover(5, 0)), Bench.THROWN);
        due("cover of VAR -1", Bench.answer(() -> x.cover(-1, 0)), Bench.THROWN);
        due("cover what 2", Bench.answer(() -> x.cover(0, 2)), Bench.THROWN);
        due("cover what -1", Bench.answer(() -> x.cover(0, -1)), Bench.THROWN);
        due("longest", x.longest(), 10);
        due("longest of two rows", Bench.unit("size 9;row 1 8;row 3 6;row 7 8;").longest(), 6);
        due("longest of like ones", Bench.unit("size 9;row 1 8;row 5 6;").longest(), 6);
        due("longest of one", Bench.unit("size 1;row 0 1;").longest(), 1);
        due("longest of the last line", Bench.unit("row 0 250;").longest(), 250);
        due("longest without rows", new CodePlaces().longest(), NONE);
    }

    // ---- 35, 36 ----

    private static void tags() {
        CodePlaces x = Bench.unit(CODE);
        x.set(2, 65535);
        dueText("tag", Bench.tag(x, 0), "a is 65535 in main");
        x.go(14);
        x.poke(3, 9);
        dueText("tag below 0", Bench.tag(x, 2), "c is -7 in deep");
        x.poke(5, 10);
        dueText("tag with 0", Bench.tag(x, 0), "a is 10 in main");
        dueText("tag of 0", Bench.tag(x, 1), "b is 0 in inl");
        due("tag of none", x.tag(3), NONE);
        due("tag of -1", x.tag(-1), NONE);
        due("the latest stays", x.byteAt(0), 'b');
        due("byte 13", x.byteAt(12), 'l');
        due("behind it", x.byteAt(13), NONE);
        due("ahead of it", x.byteAt(-1), NONE);
        x.go(39);
        dueText("tag out", Bench.tag(x, 2), "c is out in deep");
        x = Bench.unit("scope abcdefg 0 9 0;type t 0 16 signed;var zyxwvut abcdefg t;where zyxwvut 0 9 in 0;");
        x.set(0, 32768);
        dueText("a long tag", Bench.tag(x, 0), "zyxwvut is -32768 in abcdefg");
    }

    // ---- 37, 38 ----

    private static void drawn() {
        CodePlaces x = Bench.unit(CODE);
        due("drawn 0", x.drawn(0, 1), NONE);
        due("drawn 61", x.drawn(61, 1), NONE);
        due("drawn -1", x.drawn(-1, 1), NONE);
        CodePlaces y = Bench.unit(CODE);
        int seed = 12345;
        int done = 0;
        int s = seed;
        for (int i = 0; i < 60; i++) {
            int[] d = new int[4];
            int t = s;
            for (int k = 0; k < 4; k++) {
                t = t * 1103515245 + 12345;
                d[k] = t >>> 8;
            }
            int kind = d[0] % 8;
            int why;
            int draws = kind < 2 ? 3 : kind == 2 || kind == 7 ? 2 : 1;
            if (kind == 0) {
                why = y.set(d[1] % 8, d[2] % 1000);
            } else if (kind == 1) {
                why = y.poke(d[1] % 64, d[2] % 1000);
            } else if (kind == 2) {
                why = y.go(d[1] % 40);
            } else if (kind == 7) {
                why = y.stop(d[1] % 250 + 1);
                why = why == 1 ? y.clear(d[1] % 250 + 1) : why;
            } else {
                why = kind < 5 ? y.step() : kind == 5 ? y.leave() : y.run();
            }
            done += why == 0 ? 1 : 0;
            for (int k = 0; k < draws; k++) {
                s = s * 1103515245 + 12345;
            }
        }
        due("drawn 60", x.drawn(60, seed), done);
        sameMachine(x, y);
    }

    private static void sameMachine(CodePlaces x, CodePlaces y) {
        for (int i = 0; i < 6; i++) {
            due("now " + i, x.now(i), y.now(i));
        }
        for (int i = 0; i < 8; i++) {
            due("register " + i, x.register(i), y.register(i));
        }
        for (int i = 0; i < 64; i++) {
            due("memory " + i, x.memory(i), y.memory(i));
        }
        for (int i = 1; i <= 250; i++) {
            due("clear " + i, x.clear(i), y.clear(i));
        }
    }

    private static void odds() {
        CodePlaces x = Bench.unit(CODE);
        x.set(4, 1);
        for (int v = 0; v < 3; v++) {
            int there = 0;
            for (int i = 0; i < 30; i++) {
                CodePlaces y = Bench.unit(CODE);
                y.set(4, 1);
                y.drawn(10, Integer.MAX_VALUE - 9 + i);
                there += y.now(4) >> v & 1;
            }
            due("odds of " + v, x.odds(v, 30, Integer.MAX_VALUE - 9), there);
        }
        due("it stays", x.now(5), 1);
        due("nothing more is undone", x.undo(), 0);
        due("odds of none", x.odds(3, 1, 1), NONE);
        due("odds of -1", x.odds(-1, 1, 1), NONE);
        due("odds of 0 seeds", x.odds(0, 0, 1), NONE);
        due("odds of 31 seeds", x.odds(0, 31, 1), NONE);
        due("odds of 1 seed", x.odds(0, 1, 1) == NONE, false);
    }

    // ---- 39, 40 ----

    private static void wrong(String text, int line, int why, int ahead, int at) {
        CodePlaces x = Bench.unit(CODE);
        due("book " + text, Bench.book(x, text, 0), line);
        due("its fault", x.fault(), 0);
        due("tape is empty", x.count(6), 0);
        due("why " + text, x.told(0), why);
        due("lines ahead " + text, x.told(1), ahead);
        due("where it stands then " + text, x.told(2), at);
        due("all stays", x.now(5), 0);
        due("it stands", x.now(0), 0);
    }

    private static void bookFault(String text, int place, int kind) {
        CodePlaces x = Bench.unit(CODE);
        Bench.book(x, "step;go 1;", 1);
        due("book " + text, Bench.book(x, text, 1), -2 - place);
        due("fault of book " + text, x.fault(), kind);
        due("tape is empty", x.count(6), 0);
        due("told stays", x.told(1), 2);
        due("machine stays", x.now(5), 2);
        due("another lives", x.book(2), -1000);
        due("leaves the fault", x.fault(), kind);
    }

    private static void books() {
        wrong("", NONE, 0, 0, 0);
        wrong("set 1 5;poke 2 6;go 15;stop 12;step;stop 10;clear 12;run;", NONE, 0, 8, 30);
        wrong("set 1 0;", 0, 1, 0, 0);
        wrong("step;poke 1 0;", 1, 11, 1, 4);
        wrong("go 0;", 0, 21, 0, 0);
        wrong("go 39;go 40;", 1, 29, 1, 39);
        wrong("stop 1;stop 1;", 1, 31, 1, 0);
        wrong("stop 1;stop 2;stop 3;stop 4;stop 5;stop 6;stop 7;stop 8;stop 9;", 8, 32, 8, 0);
        wrong("clear 1;", 0, 41, 0, 0);
        wrong("go 35;step;", 1, 51, 1, 35);
        wrong("leave;", 0, 62, 0, 0);
        wrong("run;step;", 0, 71, 0, 0);
        CodePlaces y = Bench.unit("row 3 3;");
        due("leave", Bench.book(y, "leave;", 0), 0);
        due("leaving", y.told(0), 61);
        bookFault("set 8 1;", 4, 2);
        bookFault("set 1;", 5, 1);
        bookFault("poke 64 1;", 5, 2);
        bookFault("poke 6 1000;", 7, 1);
        bookFault("go x;", 3, 1);
        bookFault("stop 0;", 5, 2);
        bookFault("stop 251;", 5, 2);
        bookFault("clear 251;", 6, 2);
        bookFault("step", 4, 1);
        bookFault("step 1;", 5, 1);
        bookFault("row 1 1;", 0, 1);
        bookFault("step;;", 5, 1);
        bookFault("step;".repeat(40) + "step;", 200, 4);
        bookFault("step;".repeat(40) + "row;", 200, 1);
        bookFault(" ".repeat(401), 400, 1);
        bookFault(" ".repeat(399) + "step;", 400, 1);
        bookFault("step;" + " ".repeat(390) + "go 9999;", 398, 1);
        livedBooks();
    }

    private static void livedBooks() {
        CodePlaces x = Bench.unit(CODE);
        due("lived", Bench.book(x, "set 1 5;poke 7 9;go 12;set 1 5;step;", 1), 3);
        due("why", x.told(0), 1);
        due("lines ahead", x.told(1), 3);
        due("where", x.told(2), 12);
        due("VARS", x.told(3), 3);
        due("register", x.register(1), 5);
        due("memory", x.memory(7), 9);
        due("it stands", x.now(0), 12);
        due("deeds", x.now(5), 3);
        due("undo", x.undo(), 0);
        due("register", x.register(1), 0);
        due("one LINE", Bench.book(x, "set 0 1;", 1), NONE);
        due("register", x.register(0), 1);
        due("undo it", x.undo(), 0);
        due("the ends of all", Bench.book(x, "set 0 999;set 7 0;", 1), 1);
        due("the ends of memory", Bench.book(x, "poke 0 9;poke 63 999;", 1), NONE);
        due("memory", x.memory(63), 999);
        x.undo();
        x.undo();
        due("40 LINES", Bench.book(x, "set 1 1;set 1 2;".repeat(20), 1), NONE);
        due("lines ahead", x.told(1), 40);
        due("deeds", x.now(5), 40);
        due("VARS judged", Bench.book(x, "go 14;", 0), NONE);
        due("VARS there then", x.told(3), 7);
        due("where then", x.told(2), 14);
        Bench.tape(x, "step;");
        due("lives 2", x.book(2), -1000);
        due("lives -1", x.book(-1), -1000);
        due("tape stays", x.count(6), 5);
        due("told stays", x.told(2), 14);
        due("told 4", x.told(4), NONE);
        due("told -1", x.told(-1), NONE);
        due("400 bytes", Bench.book(x, " ".repeat(395) + "step;", 0), NONE);
    }

    // ---- 41, 42 ----

    private static void sentenceFault(String text, int place, int kind) {
        CodePlaces x = Bench.unit(CODE);
        Bench.sentence(x, "number = 1");
        due("sentence " + text, Bench.sentence(x, text), -1 - place);
        due("fault of sentence " + text, x.fault(), kind);
        due("tape is empty", x.count(6), 0);
        due("it stays", x.said(0), 1);
    }

    /** Of which VARS of CODE, standing at 14, with 9 in place 3, as bits. */
    private static void said(String text, int ones, int bits) {
        CodePlaces x = Bench.unit(CODE);
        x.go(14);
        x.poke(3, 9);
        x.poke(5, 300);
        due("sentence " + text, Bench.sentence(x, text), ones);
        due("fault", x.fault(), 0);
        due("tape is empty", x.count(6), 0);
        int k = 0;
        for (int v = 0; v < 3; v++) {
            if ((bits >> v & 1) == 1) {
                due("said " + k + " of " + text, x.said(k), v);
                k++;
            }
        }
        due("how many are said " + text, x.said(NONE), k);
        due("no more are said " + text, x.said(k), NONE);
        due("said -2", x.said(-2), NONE);
    }

    private static void sentences() {
        said("there", 1, 7);
        said("local", 1, 7);
        said("signed", 1, 4);
        said("within main", 1, 7);
        said("within inl", 1, 6);
        said("within deep", 1, 4);
        said("bits = 8", 1, 2);
        said("bits > 8", 1, 1);
        said("bits < 8", 1, 4);
        said("places = 2", 1, 3);
        said("places<2", 1, 4);
        said("value = 300", 1, 1);
        said("value < 0", 1, 4);
        said("value > 0", 1, 1);
        said("number > 0", 1, 6);
        said("number = 000", 1, 1);
        said("not signed", 2, 3);
        said("not not signed", 3, 4);
        said("(signed)", 2, 4);
        said("signed or bits = 8", 2, 6);
        said("signed and bits = 8", 2, 0);
        said("signed or bits = 8 and number = 0", 3, 4);
        said("number = 0 and bits = 8 or signed", 3, 4);
        said("(signed or bits = 8) and number > 1", 4, 4);
        said("not signed and number > 0", 3, 2);
        said("not (signed and number > 0)", 4, 3);
        said("number=0 or number=1 or number=2", 3, 7);
        said("number=0 or number=1 and signed or number=2 and signed", 5, 5);
        said("not not not not not not not there", 8, 0);
        said("(((((((there)))))))", 8, 7);
        said("there" + " and there".repeat(19), 20, 7);
        valueOfOut();
        sentenceFaults();
    }

    private static void valueOfOut() {
        CodePlaces x = Bench.unit(CODE);
        x.go(35);
        String[] texts = {"value = 0", "value < 999", "value > 0", "there", "local", "not value = 0", "not there"};
        int[] many = {0, 0, 0, 0, 1, 3, 3};
        for (int i = 0; i < texts.length; i++) {
            Bench.sentence(x, texts[i]);
            due("said at 35 " + texts[i], x.said(NONE), many[i]);
        }
        Bench.sentence(x, "there");
        due("said", x.said(NONE), 0);
        x.go(10);
        due("said where it stands now", x.said(NONE), 2);
        due("said", x.said(1), 1);
    }

    private static void sentenceFaults() {
        sentenceFault("", 0, 1);
        sentenceFault("  ", 2, 1);
        sentenceFault("there there", 6, 1);
        sentenceFault("there;", 5, 1);
        sentenceFault("there and", 9, 1);
        sentenceFault("there or or", 9, 1);
        sentenceFault("not", 3, 1);
        sentenceFault("(there", 6, 1);
        sentenceFault("there)", 5, 1);
        sentenceFault("()", 1, 1);
        sentenceFault("value 5", 6, 1);
        sentenceFault("value = x", 8, 1);
        sentenceFault("value = 1000", 8, 1);
        sentenceFault("within nobodyxx", 7, 1);
        sentenceFault("within nob", 7, 3);
        sentenceFault("within a", 7, 3);
        sentenceFault("within word", 7, 3);
        sentenceFault("within there", 7, 1);
        sentenceFault("within", 6, 1);
        sentenceFault("plus", 0, 1);
        sentenceFault("(".repeat(8) + "there", 8, 4);
        sentenceFault("(".repeat(9), 8, 4);
        sentenceFault("(".repeat(8) + "plus", 8, 1);
        sentenceFault("not ".repeat(8) + "there", 32, 4);
        sentenceFault("there" + " and there".repeat(20), 200, 1);
        sentenceFault("local" + " or local".repeat(20), 180, 4);
        sentenceFault(" ".repeat(201), 200, 1);
        sentenceFault(" ".repeat(195) + "there ", 200, 1);
        sentenceFault(" ".repeat(199) + "there", 200, 1);
        sentenceFault(" ".repeat(199) + "thereby", 199, 1);
    }

    // ---- 43, 44 ----

    private static void images() {
        CodePlaces x = Bench.unit(CODE);
        due("restore of none", x.restore(0), false);
        x.set(1, 7);
        x.stop(20);
        Bench.sentence(x, "signed");
        due("image", x.image(0), true);
        due("image 2", x.image(2), false);
        due("image -1", x.image(-1), false);
        due("restore 1", x.restore(1), false);
        due("restore 2", x.restore(2), false);
        due("restore -1", x.restore(-1), false);
        due("undo is still so", x.undo(), 1);
        Bench.tape(x, "row 1 1;");
        x.unit();
        x.set(1, 8);
        x.packed();
        due("image 1", x.image(1), true);
        Bench.tape(x, "step;");
        due("restore", x.restore(0), true);
        due("tape stays", x.count(6), 5);
        due("rows", x.count(1), 6);
        due("VARS", x.count(4), 3);
        due("register", x.register(1), 7);
        due("stops", x.now(2), 1);
        due("deeds", x.now(5), 2);
        due("said", x.said(0), 2);
        due("nothing can be undone", x.undo(), NONE);
        due("packed stays", x.packedAt(0), 26);
        x.set(1, 9);
        x.go(5);
        due("restore again", x.restore(0), true);
        due("register", x.register(1), 7);
        due("it stands", x.now(0), 0);
        due("undo", x.undo(), NONE);
        due("restore 1", x.restore(1), true);
        due("rows", x.count(1), 1);
        due("register", x.register(1), 8);
        due("no SENTENCE", x.said(NONE), NONE);
        x.end(0);
        Bench.sentence(x, "there");
        due("image over it", x.image(0), true);
        due("restore over it", x.restore(0), true);
        due("rows", x.count(1), 1);
        due("said", x.said(NONE), 0);
    }

    // ---- 45 ----

    private static void count() {
        CodePlaces x = Bench.unit(CODE);
        x.feed(1, 2, 3, 4, 5);
        int[] counts = {40, 6, 3, 3, 3, 5, 20};
        for (int i = 0; i < counts.length; i++) {
            due("count " + i, x.count(i), counts[i]);
        }
        due("count 7", x.count(7), NONE);
        due("count -1", x.count(-1), NONE);
    }
}
