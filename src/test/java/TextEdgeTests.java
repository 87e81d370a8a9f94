/**
 * The texts at the edges that the section "Terms" names: TOKENS, UNIT, EXPR, BOOK, SENTENCE, FAULTS.
 * A '^' in a text marks the place where its FAULT is; it does not belong to the text.
 */
public final class TextEdgeTests {
    private static final String[] WORDS = {"size", "row", "scope", "type", "plain", "signed", "var", "where", "in", "value", "reg",
        "plus", "minus", "times", "load", "dup", "swap", "set", "poke", "go", "stop", "clear", "step", "leave", "run", "or", "and", "not",
        "there", "local", "within", "bits", "places", "number"};
    /** A SCOPE from 5 to 15, a type of all bits, two VARS in them. */
    private static final String HEAD = "scope s 5 15 0;type t 0 16 plain;var v s t;var w s t;";
    private static final String WHERE = HEAD + "where v 5 9 ";
    private static final String FULL = "size 20;row 3 4;scope s 0 20 7;scope r 2 5 0;type t 3 9 signed;type u 0 1 plain;"
        + "var v s t;var w r u;where v 0 5 in 7;where w 2 4 reg 1 5 plus dup swap load value;where w 4 5 3;";
    private static final String BOOK = "set 7 999;poke 63 0;go 255;stop 250;clear 1;step;leave;run;";

    private TextEdgeTests() {
    }

    public static void main(String[] args) {
        bytes();
        words();
        numbers();
        ends();
        wrongTokens();
        lengths();
        sizes();
        rows();
        scopes();
        types();
        vars();
        wheres();
        exprs();
        stacks();
        reserved();
        most();
        firstAlongTheText();
        leastOfOneToken();
        readAgain();
        books();
        bookLengths();
        sentences();
        sentenceCounts();
        sentenceLengths();
        signs();
        Bench.finish("TextEdgeTests");
    }

    private static String clean(String marked) {
        return marked.replace("^", "");
    }

    private static void bad(int kind, String marked) {
        Bench.unitFault(clean(marked), marked.indexOf('^'), kind);
    }

    private static CodePlaces good(String text, int lines) {
        CodePlaces x = new CodePlaces();
        Bench.tape(x, text);
        Bench.due("lines of " + text, x.unit(), lines);
        Bench.due("fault of " + text, x.fault(), 0);
        return x;
    }

    private static void badBook(int kind, String marked) {
        CodePlaces x = new CodePlaces();
        Bench.due("book " + marked, Bench.book(x, clean(marked), 0), -2 - marked.indexOf('^'));
        Bench.due("fault of book " + marked, x.fault(), kind);
    }

    /** A BOOK without a FAULT: as many LINES are ahead of a WRONG one, or all. */
    private static void goodBook(String text, int ahead) {
        CodePlaces x = good("row 5 5;", 1);
        Bench.book(x, text, 0);
        Bench.due("fault of book " + text, x.fault(), 0);
        Bench.due("lines ahead in book " + text, x.told(1), ahead);
    }

    private static void badSentence(int kind, String marked) {
        CodePlaces x = good(FULL, 11);
        Bench.due("sentence " + marked, Bench.sentence(x, clean(marked)), -1 - marked.indexOf('^'));
        Bench.due("fault of sentence " + marked, x.fault(), kind);
        Bench.due("no SENTENCE " + marked, x.said(CodePlaces.NONE), CodePlaces.NONE);
    }

    private static void goodSentence(String text, int ones) {
        CodePlaces x = good(FULL, 11);
        Bench.due("sentence " + text, Bench.sentence(x, text), ones);
        Bench.due("fault of sentence " + text, x.fault(), 0);
    }

    // ---- "with blanks (32, 10) between them or not", "goes on as long as small letters and digits do" ----

    private static void bytes() {
        for (int b = 0; b < 256; b++) {
            String c = "" + (char) b;
            boolean goesOn = b >= 'a' && b <= 'z' || b >= '0' && b <= '9';
            if (b == 32 || b == 10) {
                good("row" + c + "0 1;", 1);
                good("row 0 1;" + c, 1);
                good(c + c + "row 0" + c + "1" + c + ";" + c, 1);
                goodSentence(c + "not" + c + "there" + c, 2);
                goodBook(c + "step" + c + ";" + c, 1);
            } else if (b == '^') {
                Bench.unitFault("row 0 1;^", 8, 1);
                Bench.unitFault("row^0 1;", 3, 1);
            } else {
                bad(1, "row 0 1;^" + c);
                bad(1, (goesOn ? "^row" : "row^") + c + "0 1;");
                badBook(1, "step;^" + c);
                badSentence(1, "there ^" + c);
            }
        }
        good("row 0 1;row 1 1;", 2);
        good("row 0 1 ;row 1 1 ; ", 2);
        goodSentence("(bits<4)and(value=1)or not(number>3)", 7);
    }

    // ---- "WORDS: small letters, 1 to 7" ----

    private static void words() {
        good("scope a 0 1 0;scope aa 0 1 0;scope aaa 0 1 0;scope aaaaaaa 0 1 0;scope aaaaaab 0 1 0;scope zzzzzzz 0 1 0;", 6);
        bad(1, "scope ^aaaaaaaa 0 1 0;");
        bad(1, "scope ^" + "z".repeat(40) + " 0 1 0;");
        bad(1, "scope a ^b0 1 0;");
        bad(1, "scope ^a0 1 1 0;");
        bad(1, "^scopes 0 1 0;");
        bad(1, "^sco pe s 0 1 0;");
        bad(1, "^xxrowxx 0 1;");
        // words whose first or last letters are those of a word told are other words
        bad(1, "^ro 0 1;");
        bad(1, "^ow 0 1;");
        bad(1, "^a 0 1;");
        bad(1, "^rox 0 1;");
        bad(1, "^wor 0 1;");
        badBook(1, "^ste;");
        badSentence(1, "^ther");
    }

    // ---- "NUMBERS: 1 to 3 digits" ----

    private static void numbers() {
        Bench.due("0 in all ways", good("row 0 1;row 01 02;row 002 003;", 3).row(2, 1), 3);
        bad(1, "row ^0000 1;");
        bad(1, "row 0 ^0001;");
        bad(1, "row 0 ^" + "1".repeat(40) + ";");
        bad(1, "row ^4294967296 1;");
        bad(1, "row ^0a 1;");
        bad(1, "row ^-1 1;");
        bad(1, WHERE + "^1000;");
        badBook(1, "set 0 ^1000;");
        badBook(1, "go ^0010;");
        badSentence(1, "value = ^1000");
        badSentence(1, "value = ^-1");
    }

    // ---- "1 .. one that can't come (.. the end: how many bytes there are" ----

    private static void ends() {
        int lines = 0;
        for (int i = 1; i <= FULL.length(); i++) {
            String cut = FULL.substring(0, i);
            boolean isWhole = i == FULL.length() || !isLetterOrDigit(FULL, i - 1) || !isLetterOrDigit(FULL, i);
            if (cut.endsWith(";")) {
                lines++;
                good(cut + "\n ", lines);
            } else if (isWhole) {
                bad(1, cut + "^");
                bad(1, cut + " \n^");
            }
        }
        Bench.due("lines of all", lines, 11);
        for (int i = 1; i < BOOK.length(); i++) {
            boolean isWhole = !isLetterOrDigit(BOOK, i - 1) || !isLetterOrDigit(BOOK, i);
            if (isWhole && BOOK.charAt(i - 1) != ';') {
                badBook(1, BOOK.substring(0, i) + "^");
            }
        }
        for (String cut : new String[] {"", " \n", "not", "not not", "(", "(there", "((there)", "there and", "there or", "within", "bits",
            "value <", "number =", "places >", "not (there or"}) {
            badSentence(1, cut + "^");
        }
        good("", 0);
        good(" \n", 0);
        goodBook("", 0);
        goodBook(" \n ", 0);
    }

    private static boolean isLetterOrDigit(String text, int i) {
        return Character.isLetterOrDigit(text.charAt(i));
    }

    /** In place of each TOKEN, and ahead of it, one that is none, or that comes nowhere. */
    private static void wrongTokens() {
        String[] wrongs = {".", "<", "=", ">", "(", ")", "1000", "a1", "abcdefgh", "\u00ff", "or", "there"};
        for (String text : new String[] {FULL, BOOK}) {
            boolean isBook = text.startsWith("set");
            int from = 0;
            for (int i = 1; i <= text.length(); i++) {
                if (i < text.length() && isLetterOrDigit(text, i - 1) && isLetterOrDigit(text, i)) {
                    continue;
                }
                for (String wrong : wrongs) {
                    String marked = text.substring(0, from) + " ^" + wrong + " " + text.substring(i);
                    if (isBook) {
                        badBook(1, marked);
                    } else {
                        bad(1, marked);
                    }
                }
                from = i;
            }
        }
    }

    // ---- "a text of at most 900 bytes", "TOKENS that begin ahead of it are read whole" ----

    private static String blanks(int n) {
        return " ".repeat(n);
    }

    private static void lengths() {
        good(blanks(900), 0);
        bad(1, blanks(900) + "^ ");
        bad(1, blanks(900) + "^" + blanks(40));
        good(blanks(892) + "row 0 1;", 1);
        bad(1, blanks(892) + "row 0 1;^ ");
        bad(1, blanks(892) + "row 0 1;^row 1 1;");
        bad(1, blanks(893) + "row 0 1^;");
        bad(1, blanks(893) + "row 0 1^" + blanks(30) + ";");
        bad(1, "row 0 1;" + blanks(892) + "^x");
        bad(2, blanks(892) + "row 0 ^0 " + blanks(30));
        bad(2, blanks(893) + "row 0 ^0;");
        // each TOKEN that begins ahead of the 900th byte is read whole, behind it, too
        bad(2, blanks(893) + "row 0 ^251;");
        bad(1, blanks(893) + "row 0 ^2500;");
        bad(1, blanks(893) + "row 0 2^ 50;");
        bad(1, blanks(894) + "row 0 ^251;");
        bad(2, blanks(895) + "row ^256 1;");
        bad(1, blanks(896) + "row ^256 1;");
        bad(1, blanks(898) + "^rows 0 1;");
        bad(1, blanks(899) + "^rows 0 1;");
        bad(1, blanks(899) + "r^ow 0 1;");
        bad(1, blanks(900) + "^rows 0 1;");
        bad(1, blanks(899) + "^\u00ff;");
        bad(1, blanks(900) + "^\u00ff;");
        bad(3, "row 0 1;" + blanks(891) + "^size 5;");
        bad(1, "row 0 1;" + blanks(892) + "^size 5;");
        // a FAULT ahead comes first
        bad(1, "^x" + blanks(939));
        bad(2, "row ^256 1;" + blanks(929));
    }

    // ---- "'size' N (1 to 256 ..; once, ahead of all others; 256 without)" ----

    private static void sizes() {
        int[] sizes = {1, 2, 255, 256};
        for (int size : sizes) {
            CodePlaces x = good("size " + size + ";row " + (size - 1) + " 1;", 2);
            Bench.due("size " + size, x.count(0), size);
            Bench.due("the last ADDRESS of " + size, x.lineAt(size - 1), 1);
            Bench.due("behind the last ADDRESS of " + size, x.lineAt(size), CodePlaces.NONE);
            bad(2, "size " + size + ";row ^" + size + " 1;");
            bad(2, "size " + size + ";scope s ^" + size + " 256 0;");
            bad(2, "size " + size + ";scope s 0 ^" + (size + 1) + " 0;");
            good("size " + size + ";scope s " + (size - 1) + " " + size + " 0;", 2);
        }
        Bench.due("without", good("row 255 1;", 1).count(0), 256);
        bad(2, "size ^0;");
        bad(2, "size ^257;");
        bad(2, "size ^999;");
        bad(2, "row ^256 1;");
        bad(3, "size 5;^size 5;");
        bad(3, "row 0 1;^size 5;");
        bad(3, "row 0 1;^size 0;");
        bad(3, "row 0 1;^size");
        bad(3, "scope s 0 1 0;^size 256;");
        bad(3, "type t 0 1 plain;^size 256;");
        bad(3, WHERE + "1;^size 256;");
    }

    // ---- "'row' A L (an ADDRESS, each once; 1 to 250)" ----

    private static void rows() {
        good("row 0 1;row 255 250;", 2);
        bad(2, "row 0 ^0;");
        bad(2, "row 0 ^251;");
        bad(2, "row 0 ^999;");
        bad(2, "row ^999 1;");
        bad(3, "row 0 1;row ^0 1;");
        bad(3, "row 255 1;row 0 1;row ^255 2;");
        bad(3, "row 9 1;row 5 1;row 7 1;row ^5 2;");
        good("row 9 1;row 8 1;row 10 1;", 3);
    }

    // ---- "'scope' NAME FROM TO L", "the one lies in the other one, or they have no ADDRESS both" ----

    private static void scopes() {
        good("scope s 0 1 0;scope t 255 256 250;", 2);
        bad(2, "scope s ^256 256 0;");
        bad(2, "scope s 255 ^257 0;");
        bad(2, "scope s 7 ^7 0;");
        bad(2, "scope s 7 ^6 0;");
        bad(2, "scope s 7 ^0 0;");
        good("scope s 7 8 0;", 1);
        bad(2, "scope s 0 1 ^251;");
        String two = "scope s 10 20 0;scope t ";
        String[] good = {"10 20", "10 11", "19 20", "12 18", "0 256", "9 20", "10 21", "0 10", "20 21", "9 10", "20 256", "9 21"};
        for (String range : good) {
            good(two + range + " 0;", 2);
        }
        String[] cut = {"9 ^11", "9 ^19", "19 ^21", "11 ^21", "0 ^11", "19 ^256", "0 ^19"};
        for (String range : cut) {
            bad(3, two + range + " 0;");
        }
        bad(3, "scope a 0 30 0;scope b 0 5 0;scope c 10 20 0;scope d 5 ^11 0;");
    }

    // ---- "'type' NAME FIRST MANY (0 to 15; 1 to 16, both not above 16 together)" ----

    private static void types() {
        for (int first = 0; first <= 15; first++) {
            CodePlaces x = good("scope s 0 1 0;type t " + first + " " + (16 - first) + " plain;var v s t;", 3);
            Bench.due("first", x.var(0, 3), first);
            Bench.due("many", x.var(0, 4), 16 - first);
            bad(2, "type t " + first + " ^" + (17 - first) + " plain;");
            bad(2, "type t " + first + " ^0 plain;");
            good("type t " + first + " 1 signed;", 1);
        }
        bad(2, "type t ^16 1 plain;");
        bad(2, "type t ^999 1 plain;");
        bad(2, "type t 0 ^999 plain;");
        bad(1, "type t 0 1 ^odd;");
        bad(1, "type t 0 1 ^;");
        bad(1, "type t 0 1 plain ^signed;");
    }

    // ---- "3 a NAME told twice, not told, or of another sort" ----

    private static void vars() {
        String all = "scope s 0 9 0;type t 0 1 plain;var v s t;";
        for (String name : new String[] {"s", "t", "v"}) {
            bad(3, all + "scope ^" + name + " 0 1 0;");
            bad(3, all + "type ^" + name + " 0 1 plain;");
            bad(3, all + "var ^" + name + " s t;");
            if (!name.equals("s")) {
                bad(3, all + "var w ^" + name + " t;");
            }
            if (!name.equals("t")) {
                bad(3, all + "var w s ^" + name + ";");
            }
            if (!name.equals("v")) {
                bad(3, all + "where ^" + name + " 0 1 1;");
            }
        }
        bad(3, all + "var w ^w t;");
        bad(3, all + "var w s ^w;");
        bad(3, all + "var w ^x t;");
        bad(3, all + "var w s ^x;");
        bad(3, all + "where ^w 0 1 1;");
        bad(3, "var v ^s t;scope s 0 9 0;type t 0 1 plain;");
        bad(3, "scope s 0 9 0;var v s ^t;type t 0 1 plain;");
        bad(3, "scope s 0 9 0;type t 0 1 plain;where ^v 0 1 1;var v s t;");
        bad(1, all + "var w s t ^0;");
        bad(1, all + "var w ^0 t;");
        bad(1, all + "where ^0 0 1 1;");
        good(all + "var w s t;where w 0 1 1;", 5);
    }

    // ---- "of two 'where' of a VAR likewise they have none, each lies in its SCOPE" ----

    private static void wheres() {
        good(HEAD + "where v 5 15 1;where w 5 15 1;", 6);
        good(HEAD + "where v 5 6 1;where v 14 15 1;where v 6 14 1;", 7);
        good(HEAD + "where v 9 10 1;where v 8 9 1;where v 10 11 1;where w 9 10 1;", 8);
        String[] out = {"4 ^6", "4 ^15", "5 ^16", "14 ^16", "15 ^16", "0 ^5", "4 ^5", "0 ^256", "255 ^256"};
        for (String range : out) {
            bad(3, HEAD + "where v " + range + " 1;");
        }
        String[] over = {"8 ^12", "9 ^11", "8 ^10", "10 ^12", "7 ^9", "11 ^13", "8 ^9", "11 ^12", "5 ^15"};
        for (String range : over) {
            bad(3, HEAD + "where v 8 12 1;where v " + range + " 1;");
            good(HEAD + "where v 8 12 1;where w " + clean(range) + " 1;", 6);
        }
        good(HEAD + "where v 8 12 1;where v 7 8 1;where v 12 13 1;", 7);
        bad(2, HEAD + "where v 8 ^8 1;");
        bad(2, HEAD + "where v 8 ^7 1;");
        bad(2, HEAD + "where v ^256 256 1;");
        bad(2, HEAD + "where v 14 ^257 1;");
        bad(2, "size 15;" + HEAD + "where v ^15 16 1;");
        bad(2, "size 15;" + HEAD + "where v 14 ^16 1;");
    }

    // ---- "EXPR: 'in' K (a register: 0 to 7) | OP { OP } [ 'value' ]", "8 OPS of each at most" ----

    private static void exprs() {
        good(WHERE + "in 0;", 5);
        good(WHERE + "in 7;", 5);
        bad(2, WHERE + "in ^8;");
        bad(2, WHERE + "in ^999;");
        good(WHERE + "reg 0;", 5);
        good(WHERE + "reg 7;", 5);
        bad(2, WHERE + "reg ^8;");
        bad(2, WHERE + "1 2 3 4 5 6 7 reg ^8;");
        good(WHERE + "0 value;", 5);
        good(WHERE + "999 value;", 5);
        good(WHERE + "reg 0 value;", 5);
        bad(1, WHERE + "in ^v;");
        bad(1, WHERE + "reg ^value;");
        bad(1, WHERE + "in 0 ^value;");
        bad(1, WHERE + "in 0 ^1;");
        bad(1, WHERE + "1 ^in 0;");
        bad(1, WHERE + "1 value ^value;");
        bad(1, WHERE + "1 value ^1;");
        bad(1, WHERE + "^value;");
        bad(1, WHERE + "^;");
        bad(1, WHERE + "1 ^set;");
        good(WHERE + "1 2 3 4 5 6 7 8;", 5);
        good(WHERE + "reg 1 reg 2 reg 3 reg 4 reg 5 reg 6 reg 7 reg 0 value;", 5);
        good(WHERE + "1 dup plus dup minus dup times load value;", 5);
        bad(4, WHERE + "1 2 3 4 5 6 7 8 ^9;");
        bad(4, WHERE + "1 2 3 4 5 6 7 8 ^9 value;");
        bad(4, WHERE + "1 2 3 4 5 6 7 8 ^reg 0;");
        for (String op : new String[] {"plus", "minus", "times", "load", "dup", "swap"}) {
            bad(4, WHERE + "1 2 3 4 5 6 7 8 ^" + op + ";");
            good(WHERE + "1 2 3 4 5 6 7 " + op + ";", 5);
        }
        // the eight are of each 'where' anew
        good(WHERE + "1 2 3 4 5 6 7 8;where v 9 10 1 2 3 4 5 6 7 8;", 6);
    }

    // ---- "5 an OP that finds too few on the stack (at it)" ----

    private static void stacks() {
        for (String op : new String[] {"plus", "minus", "times", "swap"}) {
            bad(5, WHERE + "^" + op + ";");
            bad(5, WHERE + "1 ^" + op + ";");
            bad(5, WHERE + "reg 1 ^" + op + ";");
            bad(5, WHERE + "1 load ^" + op + ";");
            good(WHERE + "1 2 " + op + ";", 5);
            good(WHERE + "1 dup " + op + ";", 5);
        }
        for (String op : new String[] {"load", "dup"}) {
            bad(5, WHERE + "^" + op + ";");
            good(WHERE + "1 " + op + ";", 5);
        }
        for (String op : new String[] {"plus", "minus", "times"}) {
            bad(5, WHERE + "1 2 " + op + " ^swap;");
            bad(5, WHERE + "1 2 3 " + op + " " + op + " ^" + op + ";");
            good(WHERE + "1 2 3 " + op + " " + op + ";", 5);
        }
        good(WHERE + "1 2 swap swap plus;", 5);
        bad(5, WHERE + "1 2 swap plus ^swap;");
        good(WHERE + "1 dup dup plus plus;", 5);
        bad(5, WHERE + "1 dup dup plus plus ^plus;");
        // the stack is empty at first for each 'where'
        bad(5, WHERE + "1 2 3;where v 9 10 ^dup;");
    }

    // ---- "NAME: a WORD, none of those told here, in a BOOK or a SENTENCE" ----

    private static void reserved() {
        for (String word : WORDS) {
            bad(1, "scope ^" + word + " 0 1 0;");
            bad(1, "type ^" + word + " 0 1 plain;");
            bad(1, HEAD + "var ^" + word + " s t;");
            bad(1, HEAD + "var x ^" + word + " t;");
            bad(1, HEAD + "var x s ^" + word + ";");
            bad(1, HEAD + "where ^" + word + " 5 6 1;");
            badSentence(1, "within ^" + word);
            good("scope " + word + "x 0 1 0;type x" + word + " 0 1 plain;var " + word.substring(1) + "yy " + word + "x x" + word + ";", 3);
        }
    }

    // ---- "30 ROWS, 10 SCOPES, 6 TYPES, 10 VARS, 16 'where'", all of them in one UNIT, and one more of each ----

    private static String full(int rows, int scopes, int types, int vars, int wheres) {
        StringBuilder s = new StringBuilder();
        for (int i = 0; i < rows; i++) {
            s.append("row ").append(i).append(" ").append(i + 1).append(";");
        }
        for (int i = 0; i < scopes; i++) {
            s.append("scope ").append((char) ('a' + i)).append(" 0 99 ").append(i).append(";");
        }
        for (int i = 0; i < types; i++) {
            s.append("type ").append((char) ('k' + i)).append(" ").append(i).append(" 5 plain;");
        }
        for (int i = 0; i < vars; i++) {
            s.append("var ").append((char) ('q' + i)).append(" j p;");
        }
        for (int i = 0; i < wheres; i++) {
            s.append("where z ").append(i).append(" ").append(i + 1).append(" 1;");
        }
        return s.toString();
    }

    private static void most() {
        String all = full(30, 10, 6, 10, 16);
        CodePlaces x = good(all, 72);
        int[] counts = {256, 30, 10, 6, 10, 16};
        for (int i = 0; i < counts.length; i++) {
            Bench.due("count of most " + i, x.count(i), counts[i]);
        }
        Bench.due("row 29", x.row(29, 1), 30);
        Bench.due("row 30", x.row(30, 1), CodePlaces.NONE);
        Bench.due("scope 9", x.scope(9, 2), 9);
        Bench.due("scope 10", x.scope(10, 2), CodePlaces.NONE);
        Bench.due("VARS of scope 9", x.scope(9, 4), 1023);
        Bench.due("type of VAR 9", x.var(9, 1), 5);
        Bench.due("FIRST of it", x.var(9, 3), 5);
        Bench.due("'where' of VAR 9", x.var(9, 2), 16);
        Bench.due("VAR 10", x.var(10, 0), CodePlaces.NONE);
        Bench.due("the last 'where'", x.placeOf(9, 15), 15);
        Bench.due("VARS at 0", x.now(4), 512);
        Bench.due("chain of 10", x.chain(0), 10);
        Bench.due("the outermost", x.chainAt(9), 0);
        Bench.due("its line", x.chainLine(9), 1);
        Bench.due("behind it", x.chainAt(10), CodePlaces.NONE);
        bad(4, all + "^row 40 1;");
        bad(4, all + "^scope aa 0 1 0;");
        bad(4, all + "^type aa 0 1 plain;");
        bad(4, all + "^var aa a k;");
        bad(4, all + "^where q 0 1 1;");
        bad(4, all + "^row");
        bad(4, all + "^scope scope;");
        bad(4, all + "^type;");
        bad(4, all + "^var 5;");
        bad(4, all + "^where nobody 0 1 1;");
        good(full(29, 9, 5, 0, 0) + "row 40 1;scope aa 0 1 0;type bb 0 1 plain;", 46);
    }

    // ---- "FAULTS, the first along the text" ----

    private static void firstAlongTheText() {
        bad(2, "size ^0 0;");
        bad(2, "row ^256 0;row 0 0;");
        bad(2, "row 0 ^0 0;");
        bad(3, "row 0 1;row ^0 0;");
        bad(1, "scope ^row 9 9 251;");
        bad(3, "scope s 0 9 0;scope ^s 9 9 251;");
        bad(2, "scope s ^256 0 251;");
        bad(2, "scope s 9 ^9 251;");
        bad(2, "scope s 9 ^257 251;");
        bad(3, "scope s 0 9 0;scope t 5 ^12 251;");
        bad(2, "scope s 0 9 ^251 0;");
        bad(2, "type t ^16 17 odd;");
        bad(2, "type t 9 ^8 odd;");
        bad(1, "type t 9 7 ^odd odd;");
        bad(3, HEAD + "var ^s x y;");
        bad(3, HEAD + "var x ^y y;");
        bad(3, HEAD + "var x s ^y y;");
        bad(3, HEAD + "where ^y 256 0 in 8;");
        bad(2, HEAD + "where v ^256 0 in 8;");
        bad(2, HEAD + "where v 9 ^9 in 8;");
        bad(3, HEAD + "where v 9 ^16 in 8;");
        bad(3, HEAD + "where v 9 10 1;where v 9 ^10 plus;");
        bad(2, WHERE + "in ^8 9;");
        bad(2, WHERE + "reg ^8 plus;");
        bad(5, WHERE + "^plus reg 8;");
        bad(5, WHERE + "1 ^plus reg 8;");
        bad(4, WHERE + "1 2 3 4 5 6 7 8 ^9 reg 8;");
        bad(2, "row 0 ^0;row 0 1;size 0;");
        // and behind a ';' that comes too early
        bad(1, "size ^;row 0 0;");
        bad(1, "row ^;row 0 0;");
        bad(1, "row 0 ^;row 0 0;");
        bad(1, "scope ^;row 0 0;");
        bad(1, "scope s 0 ^;row 0 0;");
        bad(1, "scope s 0 9 ^;row 0 0;");
        bad(1, "type t 0 1 ^;row 0 0;");
        bad(1, HEAD + "var ^;row 0 0;");
        bad(1, HEAD + "var x ^;row 0 0;");
        bad(1, HEAD + "var x s ^;row 0 0;");
        bad(1, HEAD + "where ^;row 0 0;");
        bad(1, WHERE + "^;row 0 0;");
        bad(1, WHERE + "in ^;row 0 0;");
        bad(1, WHERE + "reg ^;row 0 0;");
        bad(1, "^;row 0 0;");
        bad(1, "row 0 1;^;row 0 0;");
        // and behind a ';' or a ')' that is not there
        bad(1, "row 0 1 ^row 0 0;");
        bad(1, "size 9 ^row 9 0;");
        bad(1, WHERE + "in 1 ^row 0 0;");
        bad(1, WHERE + "1 ^row 0 0;");
        bad(1, WHERE + "1 value ^row 0 0;");
        badBook(1, "step ^go x;");
        badBook(1, "go 1 ^go x;");
        badSentence(1, "(there ^not x");
        badSentence(1, "(there ^; and x");
        badBook(1, "^;go x;");
        badBook(1, "set 1 ^;go x;");
        badBook(1, "go ^;stop 0;");
        badSentence(1, "(^) or x");
        badSentence(1, "within ^) or x");
        badSentence(1, "not ^or x");
        badBook(2, "set ^8 x;");
        badBook(2, "poke ^64 1000;");
        badBook(2, "stop ^0 0;");
        badSentence(3, "within ^x or");
        badSentence(1, "value ^5 and or");
    }

    // ---- "of one TOKEN the least" ----

    private static void leastOfOneToken() {
        // no TO above FROM, and out of its SCOPE, or over another 'where', or cutting a SCOPE
        bad(2, HEAD + "where v 20 ^20 1;");
        bad(2, HEAD + "where v 4 ^4 1;");
        bad(2, HEAD + "where v 6 ^257 1;");
        bad(2, HEAD + "where v 8 12 1;where v 9 ^9 1;");
        bad(2, "scope s 5 15 0;scope t 10 ^257 0;");
        bad(2, "scope s 5 15 0;scope t 20 ^10 0;");
        // a ninth OP that finds too few, or that is none
        bad(4, WHERE + "1 load load load load load load load ^plus;");
        bad(1, WHERE + "1 2 3 4 5 6 7 8 ^row;");
        bad(1, WHERE + "1 2 3 4 5 6 7 8 ^(;");
        // a 41st LINE, a 21st ONE, a ninth within that can't come
        badBook(1, "go 1;".repeat(40) + "^there;");
        badBook(1, "go 1;".repeat(40) + "^9;");
        badSentence(1, "local" + " or local".repeat(19) + " or ^or");
        badSentence(1, "((((((((^)");
        badSentence(4, "local" + " or local".repeat(11) + " or ((((((((^local))))))))");
    }

    // ---- each text is read anew, whatever was read ahead of it ----

    private static void readAgain() {
        CodePlaces x = new CodePlaces();
        String all = full(30, 10, 6, 10, 16);
        for (int i = 0; i < 2; i++) {
            Bench.tape(x, all);
            Bench.due("all of them", x.unit(), 72);
            Bench.tape(x, all + "x");
            Bench.due("with a FAULT behind them", x.unit(), -1 - all.length());
        }
        Bench.tape(x, "row 3 4;scope a 1 2 3;type k 0 1 plain;var q a k;where q 1 2 3;");
        Bench.due("fewer", x.unit(), 5);
        for (int i = 1; i <= 5; i++) {
            Bench.due("one of each " + i, x.count(i), 1);
        }
        for (int i = 0; i < 2; i++) {
            Bench.due("20 ONES", Bench.sentence(x, "there" + " or there".repeat(19)), 20);
            Bench.due("21 ONES", Bench.sentence(x, "local" + " or local".repeat(20)), -181);
            Bench.due("deep", Bench.sentence(x, "(((((((there)))))))"), 8);
            Bench.due("40 LINES", Bench.book(x, "step;".repeat(40), 0), 1);
            Bench.due("41 LINES", Bench.book(x, "step;".repeat(41), 0), -202);
        }
        behindTheEnd();
        // 'value' and OPS of an earlier UNIT are gone
        Bench.tape(x, WHERE + "1 2 3 value;where v 9 10 in 3;");
        x.unit();
        Bench.tape(x, WHERE + "4;where v 9 10 5 6;");
        Bench.due("again", x.unit(), 6);
        x.poke(4, 77);
        x.poke(6, 78);
        Bench.due("a place", x.value(0, 5), 77);
        Bench.due("another place", x.value(0, 9), 78);
    }

    /** Bytes that the tape had behind its end do not belong to the text. */
    private static void behindTheEnd() {
        CodePlaces x = good("scope s 0 9 0;", 1);
        Bench.tape(x, "row 3 44;ow 5 5;");
        x.end(7);
        Bench.due("row 3 4", x.unit(), -8);
        Bench.tape(x, "row 3 44;row 5 5;");
        x.end(9);
        Bench.due("row 3 44;", x.unit(), 1);
        Bench.due("its line", x.lineAt(3), 44);
        Bench.tape(x, "therexyz");
        x.end(5);
        Bench.due("there", x.sentence(), 1);
        Bench.tape(x, "bits=16");
        x.end(6);
        Bench.due("bits=1", x.sentence(), 1);
        Bench.tape(x, "step;1");
        x.end(5);
        Bench.due("step;", x.book(0), CodePlaces.NONE);
        Bench.due("one LINE", x.told(1), 1);
        Bench.tape(x, "x".repeat(400));
        x.end(0);
        Bench.due("nothing", x.unit(), 0);
        Bench.tape(x, 3, 0, 5, 1, 0);
        x.end(2);
        Bench.due("3 0", x.unpacked(), -1);
        Bench.tape(x, 2, 5, 1, 0);
        x.end(1);
        Bench.due("2", x.unpacked(), -1);
        Bench.tape(x, 1, 0);
        x.end(1);
        Bench.due("1", x.unpacked(), -2);
    }

    // ---- "BOOK .. 40 at most: 'set' K N (K: 0 to 7) | 'poke' A N (A: 0 to 63) | 'go' N | ( 'stop' | 'clear' ) L (1 to 250) .." ----

    private static void books() {
        goodBook("set 0 1;set 7 999;", 2);
        badBook(2, "set ^8 1;");
        badBook(2, "set ^999 1;");
        goodBook("set 0 0;", 0);
        goodBook("poke 0 1;poke 63 999;", 2);
        badBook(2, "poke ^64 1;");
        goodBook("go 1;go 255;go 0;go 999;", 3);
        goodBook("stop 1;stop 250;clear 1;clear 250;", 4);
        for (String word : new String[] {"stop", "clear"}) {
            badBook(2, word + " ^0;");
            badBook(2, word + " ^251;");
            badBook(1, word + " ^;");
            badBook(1, word + " 1 ^1;");
        }
        badBook(1, "set 1 ^;");
        badBook(1, "set 1 2 ^3;");
        badBook(1, "poke 1 ^;");
        badBook(1, "go ^;");
        badBook(1, "go 1 ^2;");
        for (String word : new String[] {"step", "leave", "run"}) {
            badBook(1, word + " ^1;");
        }
        badBook(1, "^;");
        badBook(1, "step;^;");
        badBook(1, "^5;");
        badBook(1, "^row 1 1;");
        badBook(1, "^there");
        badBook(1, "^nobody;");
        goodBook("set 1 1;set 1 2;".repeat(20), 40);
        badBook(4, "step;".repeat(40) + "^step;");
        badBook(4, "step;".repeat(40) + "^step");
        badBook(4, "step;".repeat(40) + "^set 8 x;");
        badBook(2, "step;".repeat(39) + "set ^8 5;step;");
    }

    private static void bookLengths() {
        goodBook(blanks(400), 0);
        goodBook(blanks(395) + "step;", 1);
        badBook(1, blanks(400) + "^ ");
        badBook(1, blanks(395) + "step;^ ");
        badBook(1, blanks(396) + "step^;");
        badBook(1, blanks(396) + "step^   ;");
        badBook(1, blanks(397) + "^stepx;");
        badBook(1, blanks(399) + "s^tep;");
        badBook(2, blanks(394) + "stop ^251;");
        badBook(1, blanks(395) + "stop ^251;");
        badBook(1, blanks(399) + "^x" + blanks(100));
        badBook(1, blanks(400) + "^x");
        badBook(2, "set ^8 1;" + blanks(500));
    }

    // ---- "COND: ALL { 'or' ALL }. ALL: ONE { 'and' ONE }. ONE: .." ----

    private static void sentences() {
        goodSentence("there", 1);
        goodSentence("local", 1);
        goodSentence("signed", 1);
        goodSentence("within s", 1);
        goodSentence("(there)", 2);
        goodSentence("not there", 2);
        for (String word : new String[] {"bits", "places", "value", "number"}) {
            for (String sign : new String[] {"<", "=", ">"}) {
                goodSentence(word + sign + "0", 1);
                goodSentence(word + " " + sign + " 999", 1);
            }
            badSentence(1, word + " ^there");
            badSentence(1, word + " ^; 5");
            badSentence(1, word + " ^5");
            badSentence(1, word + " < ^= 5");
            badSentence(1, word + " = ^s");
            badSentence(1, word + " = ^1000");
            badSentence(1, word + " = 5 ^5");
            badSentence(1, word + " = ^and x");
            badSentence(1, word + " ^and = x");
        }
        badSentence(3, "within ^x");
        badSentence(3, "within ^t");
        badSentence(3, "within ^v");
        badSentence(1, "within ^5");
        badSentence(1, "within ^abcdefgh");
        badSentence(1, "within s ^r");
        badSentence(1, "^and");
        badSentence(1, "^or there");
        badSentence(1, "there ^not");
        badSentence(1, "there ^(there)");
        badSentence(1, "there and ^or there");
        badSentence(1, "there or ^and there");
        badSentence(1, "(there ^there)");
        badSentence(1, "(^)");
        badSentence(1, "^)");
        badSentence(1, "(there)^)");
        badSentence(1, "there^;");
        badSentence(1, "^s");
        badSentence(1, "^step");
        badSentence(1, "^5");
    }

    // ---- "20 ONES, 8 within one another" ----

    private static void sentenceCounts() {
        goodSentence("there" + " or there".repeat(19), 20);
        goodSentence("(local)" + "or(local)".repeat(9), 20);
        goodSentence("not local" + " or not local".repeat(9), 20);
        badSentence(4, "local" + " or local".repeat(19) + " or ^local");
        badSentence(4, "local" + " or local".repeat(19) + " or ^(local)");
        badSentence(4, "local" + " or local".repeat(19) + " or ^not local");
        badSentence(4, "local" + " or local".repeat(18) + " or (^local)");
        badSentence(4, "local" + " or local".repeat(18) + " or not ^local");
        badSentence(4, "local" + " or local".repeat(19) + " or ^within nobody");
        badSentence(4, "local" + " or local".repeat(19) + " and ^value 5");
        goodSentence("(((((((there)))))))", 8);
        goodSentence("not not not not not not not there", 8);
        goodSentence("not(not(not(not there)))", 8);
        badSentence(4, "((((((((^there))))))))");
        badSentence(4, "not not not not not not not not ^there");
        badSentence(4, "not(not(not(not(^there))))");
        badSentence(4, "((((((((^(");
        badSentence(4, "((((((((^not there");
        badSentence(4, "((((((((^within nobody");
        badSentence(4, "(((((((local and (^local");
        badSentence(4, "(((((((local) or not (^(local");
        // what is behind a bracket or a 'not' is as deep as they are
        goodSentence("(((((((there))))))) and (((((((there)))))))", 16);
        goodSentence("not not not not not not not there or not not not not not not not there", 16);
        goodSentence("(".repeat(7) + "there" + " or there)".repeat(7), 15);
        goodSentence("not not not not not not (local and local)", 9);
        badSentence(4, "not not not not not not (local and (^local))");
    }

    private static void sentenceLengths() {
        goodSentence(blanks(195) + "there", 1);
        goodSentence("there" + blanks(195), 1);
        badSentence(1, "there" + blanks(195) + "^ ");
        badSentence(1, blanks(195) + "there^ ");
        badSentence(1, blanks(196) + "ther^e");
        badSentence(1, blanks(200) + "^there");
        badSentence(1, blanks(199) + "^xthere");
        badSentence(1, "there" + blanks(194) + "a^nd there");
        badSentence(3, blanks(192) + "within ^x" + blanks(300));
        badSentence(1, blanks(193) + "within ^x" + blanks(300));
    }

    // ---- "SIGN: < = >": what is less, like and more by one ----

    private static final String THREE = "scope s 0 9 0;type t 0 16 plain;type u 15 1 signed;var a s t;var b s u;var c s t;"
        + "where a 0 3 in 1;where a 3 5 1;where b 0 9 in 2;";

    private static void compared(String word, int is, int v, int registers) {
        CodePlaces x = good(THREE, 9);
        x.set(1, registers);
        x.set(2, registers);
        String[] signs = {"<", "=", ">"};
        for (int n = Math.max(0, is - 1); n <= Math.min(999, is + 1); n++) {
            boolean[] so = {is < n, is == n, is > n};
            for (int i = 0; i < 3; i++) {
                String text = word + signs[i] + n + " and number=" + v;
                Bench.due("sentence " + text, Bench.sentence(x, text), 2);
                Bench.due("said " + text + " of " + is, x.said(CodePlaces.NONE), so[i] ? 1 : 0);
            }
        }
    }

    private static void signs() {
        compared("bits", 16, 0, 0);
        compared("bits", 1, 1, 0);
        compared("places", 2, 0, 0);
        compared("places", 0, 2, 0);
        compared("number", 0, 0, 0);
        compared("number", 2, 2, 0);
        compared("value", 0, 0, 0);
        compared("value", 1, 0, 1);
        compared("value", 999, 0, 999);
        compared("value", 1000, 0, 1000);
        compared("value", -1, 1, 32768);
        compared("value", 0, 1, 32767);
    }
}
