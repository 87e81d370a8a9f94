import java.io.IOException;
import java.lang.reflect.Constructor;
import java.lang.reflect.Field;
import java.lang.reflect.Method;
import java.lang.reflect.Modifier;
import java.nio.file.Files;
import java.nio.file.Path;
import java.util.ArrayList;
import java.util.Arrays;
import java.util.List;
import java.util.TreeSet;

/** The public face, and what LANGUAGE.md asks of the file, as far as it is easily seen. */
public final class FormTests {
    private static final String[] FACE = {"feed(int,int,int,int,int)int", "end(int)boolean", "unit()int", "fault()int", "row(int,int)int",
        "scope(int,int)int", "var(int,int)int", "placeOf(int,int)int", "lineAt(int)int", "addressOf(int,int)int", "chain(int)int",
        "chainAt(int)int", "chainLine(int)int", "value(int,int)int", "why(int,int)int", "now(int)int", "register(int)int",
        "memory(int)int", "set(int,int)int", "poke(int,int)int", "go(int)int", "stop(int)int", "clear(int)int", "step()int",
        "leave()int", "run()int", "undo()int", "packed()int", "packedAt(int)int", "unpacked()int", "unpackedAt(int,int)int",
        "cover(int,int)int", "longest()int", "tag(int)int", "byteAt(int)int", "drawn(int,int)int", "odds(int,int,int)int",
        "book(int)int", "told(int)int", "sentence()int", "said(int)int", "image(int)boolean", "restore(int)boolean", "count(int)int"};
    private static final String[] NOT_ALLOWED = {"->", "::", " try ", "catch", "finally", "synchronized", "assert ", "Exact(", "package ",
        "System.out", "Object ", "Float", "Double", "Random", "ordinal", "HashMap", " + \"", "\" + ", "static {", "protected ", "/ 0"};

    private FormTests() {
    }

    public static void main(String[] args) throws IOException {
        face();
        classes();
        source();
        Bench.finish("FormTests");
    }

    private static void is(String what, boolean so) {
        Bench.due(what, so, true);
    }

    private static void face() {
        Class<?> c = CodePlaces.class;
        is("public and final", Modifier.isPublic(c.getModifiers()) && Modifier.isFinal(c.getModifiers()));
        TreeSet<String> found = new TreeSet<>();
        TreeSet<String> names = new TreeSet<>();
        for (Method m : c.getDeclaredMethods()) {
            if (!Modifier.isPrivate(m.getModifiers())) {
                StringBuilder s = new StringBuilder(m.getName()).append('(');
                for (int i = 0; i < m.getParameterCount(); i++) {
                    s.append(i == 0 ? "" : ",").append(m.getParameterTypes()[i].getSimpleName());
                }
                found.add(s.append(')').append(m.getReturnType().getSimpleName()).toString());
                names.add(m.getName());
            }
        }
        is("the methods of the face " + found, found.equals(new TreeSet<>(Arrays.asList(FACE))));
        for (Method m : c.getDeclaredMethods()) {
            is("a private name " + m, !Modifier.isPrivate(m.getModifiers()) || !names.contains(m.getName()));
        }
        for (Field f : c.getDeclaredFields()) {
            is("a field " + f, Modifier.isPrivate(f.getModifiers()) || f.getName().equals("NONE"));
        }
        Constructor<?>[] all = c.getDeclaredConstructors();
        is("one constructor", all.length == 1 && all[0].getParameterCount() == 0 && Modifier.isPublic(all[0].getModifiers()));
    }

    private static void classes() {
        List<Class<?>> all = new ArrayList<>(Arrays.asList(CodePlaces.class.getDeclaredClasses()));
        all.add(CodePlaces.class);
        is("some twelve classes " + all.size(), all.size() <= 12);
        for (Class<?> c : all) {
            int fields = 0;
            for (Field f : c.getDeclaredFields()) {
                fields += Modifier.isStatic(f.getModifiers()) ? 0 : 1;
                is("a static field is final " + f, !Modifier.isStatic(f.getModifiers()) || Modifier.isFinal(f.getModifiers()));
            }
            is("some twenty fields " + c + " " + fields, fields <= 20);
            is("static " + c, c == CodePlaces.class || Modifier.isStatic(c.getModifiers()));
            for (Method m : c.getDeclaredMethods()) {
                is("seven parameters " + m, m.getParameterCount() <= 7);
            }
        }
    }

    private static void source() throws IOException {
        List<String> lines = Files.readAllLines(Path.of("src/main/java/CodePlaces.java"));
        int begins = 0;
        String indent = "";
        for (int i = 0; i < lines.size(); i++) {
            String line = lines.get(i);
            for (String not : NOT_ALLOWED) {
                is("line " + (i + 1) + " has " + not, !line.contains(not));
            }
            is("import of line " + (i + 1), !line.startsWith("import") || line.equals("import java.util.NoSuchElementException;"));
            is("signs of line " + (i + 1), line.chars().allMatch(n -> n >= 32 && n < 127));
            if (line.matches("( {4}| {8})[a-z].*\\) (throws \\w+ )?\\{")) {
                begins = i;
                indent = line.substring(0, line.length() - line.stripLeading().length());
            } else if (line.equals(indent + "}")) {
                is("sixty lines from " + (begins + 1), i - begins <= 60);
            }
        }
    }
}
