import java.util.LinkedHashMap;
import java.util.List;
import java.util.Map;

/** All that an object tells, by name, to compare two objects by it. The object is used up: undo and restore come last. */
final class Dump {
    private final Map<String, Integer> answers = new LinkedHashMap<>();

    private Dump() {
    }

    static Dump of(CodePlaces x) {
        Dump d = new Dump();
        d.unit(x);
        d.places(x);
        d.machine(x);
        d.latest(x);
        d.undone(x);
        d.restored(x);
        d.tape(x);
        return d;
    }

    /** Every answer is as in the other one, but for those whose names begin so. */
    void same(String call, Dump other, String... but) {
        for (Map.Entry<String, Integer> e : answers.entrySet()) {
            if (List.of(but).stream().noneMatch(e.getKey()::startsWith)) {
                Bench.due(call + ": then " + e.getKey(), e.getValue(), other.answers.get(e.getKey()));
            }
        }
        Bench.due(call + ": then all", answers.size(), other.answers.size());
    }

    private void put(String name, int n) {
        answers.put(name, n);
    }

    private void unit(CodePlaces x) {
        put("fault", x.fault());
        for (int i = 0; i <= 6; i++) {
            put("count " + i, x.count(i));
        }
        for (int k = 0; k < 7; k++) {
            put("row " + k + " at", x.row(k, 0));
            put("row " + k + " line", x.row(k, 1));
        }
        for (int s = 0; s < 4; s++) {
            for (int what = 0; what < 5; what++) {
                put("scope " + s + " " + what, x.scope(s, what));
            }
        }
        for (int v = 0; v < 3; v++) {
            for (int what = 0; what < 6; what++) {
                put("var " + v + " " + what, x.var(v, what));
            }
        }
    }

    private void places(CodePlaces x) {
        for (int v = 0; v < 3; v++) {
            for (int a : new int[] {0, 12, 15}) {
                place(x, v, a);
            }
        }
        put("longest", x.longest());
        put("addressOf 10 1", x.addressOf(10, 1));
    }

    private void place(CodePlaces x, int v, int a) {
        put("placeOf " + v + " " + a, x.placeOf(v, a));
        put("why " + v + " " + a, x.why(v, a));
        put("value " + v + " " + a, Bench.answer(() -> x.value(v, a)));
    }

    private void machine(CodePlaces x) {
        for (int i = 0; i <= 5; i++) {
            put("now " + i, x.now(i));
        }
        for (int k = 0; k < 8; k++) {
            put("register " + k, x.register(k));
        }
        for (int a = 0; a < 64; a++) {
            put("memory " + a, x.memory(a));
        }
    }

    private void latest(CodePlaces x) {
        for (int k = 0; k < 4; k++) {
            put("chainAt " + k, x.chainAt(k));
            put("chainLine " + k, x.chainLine(k));
        }
        for (int i = 0; i < 18; i++) {
            put("packedAt " + i, x.packedAt(i));
        }
        for (int k = 0; k < 3; k++) {
            put("unpackedAt " + k, x.unpackedAt(k, 0));
            put("unpackedAt line " + k, x.unpackedAt(k, 1));
        }
        for (int i = 0; i < 20; i++) {
            put("byteAt " + i, x.byteAt(i));
        }
        for (int i = 0; i < 4; i++) {
            put("told " + i, x.told(i));
        }
        for (int k = -1; k < 3; k++) {
            put("said " + k, x.said(k));
        }
    }

    private void undone(CodePlaces x) {
        for (int i = 0; i < 9; i++) {
            put("undo " + i, x.undo());
            put("undo " + i + " now 0", x.now(0));
            put("undo " + i + " now 2", x.now(2));
            put("undo " + i + " now 5", x.now(5));
            put("undo " + i + " register 1", x.register(1));
            put("undo " + i + " memory 3", x.memory(3));
        }
        for (int line : new int[] {1, 10, 20, 250}) {
            put("clear " + line, x.clear(line));
        }
    }

    private void restored(CodePlaces x) {
        for (int k = 0; k < 2; k++) {
            put("restore " + k, x.restore(k) ? 1 : 0);
            put("restore " + k + " rows", x.count(1));
            put("restore " + k + " now 0", x.now(0));
            put("restore " + k + " now 5", x.now(5));
            put("restore " + k + " register 1", x.register(1));
            put("restore " + k + " said", x.said(-1));
        }
    }

    /** What is on the tape is seen by what it says as a UNIT. */
    private void tape(CodePlaces x) {
        put("tape as unit", x.unit());
        put("tape as unit fault", x.fault());
        put("tape as unit rows", x.count(1));
        put("tape as unit row", x.row(0, 0));
    }
}
