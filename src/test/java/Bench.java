import java.util.NoSuchElementException;
import java.util.function.IntSupplier;

/** Compares answers with those that are due, counts the wrong ones and ends the test. */
final class Bench {
    static final int THROWN = -424242;
    private static int wrong = 0;
    private static int seen = 0;

    private Bench() {
    }

    static void due(String call, long got, long want) {
        seen++;
        if (got != want) {
            wrong++;
            if (wrong <= 50) {
                System.out.println(call + " answered " + got + ", due is " + want);
            }
        }
    }

    static void due(String call, boolean got, boolean want) {
        due(call, got ? 1 : 0, want ? 1 : 0);
    }

    /** The answer, or THROWN for the exception that the document names. */
    static int answer(IntSupplier call) {
        try {
            return call.getAsInt();
        } catch (NoSuchElementException e) {
            return THROWN;
        }
    }

    static void finish(String name) {
        System.out.println(name + ": " + seen + " answers, " + wrong + " wrong");
        if (wrong != 0 || seen == 0) {
            System.exit(1);
        }
    }

    /** Puts a text on the tape, which was empty. */
    static void tape(CodePlaces x, String text) {
        int[] bytes = new int[text.length()];
        for (int i = 0; i < bytes.length; i++) {
            bytes[i] = text.charAt(i);
        }
        tape(x, bytes);
    }

    static void tape(CodePlaces x, int... bytes) {
        for (int at = 0; at < bytes.length; at += 20) {
            x.feed(word(bytes, at), word(bytes, at + 4), word(bytes, at + 8), word(bytes, at + 12), word(bytes, at + 16));
        }
        x.end(bytes.length);
    }

    static int word(int[] bytes, int at) {
        int word = 0;
        for (int i = at; i < at + 4; i++) {
            word = word << 8 | (i < bytes.length ? bytes[i] & 255 : 0);
        }
        return word;
    }

    static CodePlaces unit(String text) {
        CodePlaces x = new CodePlaces();
        tape(x, text);
        int lines = x.unit();
        if (lines < 0) {
            wrong++;
            System.out.println("no UNIT: " + text + " " + lines + " " + x.fault());
        }
        return x;
    }

    /** The answer of unit() to a text, and its FAULT. */
    static void unitFault(String text, int place, int kind) {
        CodePlaces x = new CodePlaces();
        tape(x, text);
        due("unit " + text, x.unit(), -1 - place);
        due("fault of unit " + text, x.fault(), kind);
    }

    static int book(CodePlaces x, String text, int lives) {
        tape(x, text);
        return x.book(lives);
    }

    static int sentence(CodePlaces x, String text) {
        tape(x, text);
        return x.sentence();
    }

    static String tag(CodePlaces x, int v) {
        int many = x.tag(v);
        StringBuilder text = new StringBuilder();
        for (int i = 0; i < many; i++) {
            text.append((char) x.byteAt(i));
        }
        return text.toString();
    }
}
