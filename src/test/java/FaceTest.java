import java.io.IOException;
import java.lang.reflect.Constructor;
import java.lang.reflect.Field;
import java.lang.reflect.Method;
import java.lang.reflect.Modifier;
import java.nio.file.Files;
import java.nio.file.Path;
import java.util.ArrayList;
import java.util.Arrays;
import java.util.List;
import java.util.Set;
import java.util.TreeSet;
import java.util.regex.Matcher;
import java.util.regex.Pattern;

/** The public face is the document's, and the source keeps to LANGUAGE.md where a look at it can tell. */
public final class FaceTest {
    private static final String SOURCE = "src/main/java/PurserLedgers.java";

    public static void main(String[] args) throws IOException {
        members();
        privateNames();
        lines();
        headings();
        source();
        Due.end("FaceTest");
    }

    private static void members() {
        Set<String> due = new TreeSet<>(Arrays.asList("sign(2)", "stock(3)", "sell(3)", "advance(2)", "fine(2)",
                "fineWatch(2)", "leave(1)", "back(2)", "sail(0)", "port(0)", "days(1)", "dismiss(1)", "payOff(0)", "set(2)",
                "sailor(2)", "item(2)", "book(2)", "why(3)", "most(2)", "clearIn(1)", "ifPaidOff(1)", "poorest(1)",
                "share(0)", "count(1)", "undo(0)", "type(1)", "clearText(0)", "fault(1)", "play(0)"));
        Set<String> methods = new TreeSet<>();
        for (Method m : PurserLedgers.class.getDeclaredMethods()) {
            if (!Modifier.isPrivate(m.getModifiers())) {
                methods.add(m.getName() + "(" + m.getParameterCount() + ")");
                Due.is(m + " is public, not static, of ints",
                        Modifier.isPublic(m.getModifiers()) && !Modifier.isStatic(m.getModifiers())
                        && m.getReturnType() == int.class
                        && Arrays.stream(m.getParameterTypes()).allMatch(t -> t == int.class) ? 1 : 0, 1);
            }
        }
        Due.same("methods", String.join("\n", methods), String.join("\n", due));
        Set<String> fields = new TreeSet<>();
        for (Field f : PurserLedgers.class.getDeclaredFields()) {
            if (!Modifier.isPrivate(f.getModifiers())) {
                fields.add(f.toString());
            }
            Due.is(f + ": static ones are final", !Modifier.isStatic(f.getModifiers())
                    || Modifier.isFinal(f.getModifiers()) ? 1 : 0, 1);
        }
        Due.is("constants", fields.size(), 4);
        Due.is("INVALID_ARGUMENT", PurserLedgers.INVALID_ARGUMENT, -1000001);
        Due.is("NOT_POSSIBLE", PurserLedgers.NOT_POSSIBLE, -1000002);
        Due.is("LIMIT_REACHED", PurserLedgers.LIMIT_REACHED, -1000003);
        Due.is("NOT_FOUND", PurserLedgers.NOT_FOUND, -1000004);
        Constructor<?>[] constructors = PurserLedgers.class.getDeclaredConstructors();
        Due.is("constructors", constructors.length, 1);
        Due.is("public", Modifier.isPublic(constructors[0].getModifiers()) ? 1 : 0, 1);
        Due.is("final", Modifier.isFinal(PurserLedgers.class.getModifiers()) ? 1 : 0, 1);
    }

    private static void privateNames() {
        Set<String> names = new TreeSet<>(Arrays.asList(Calls.NAMES));
        for (Method m : PurserLedgers.class.getDeclaredMethods()) {
            Due.is(m + " bears no public name", Modifier.isPrivate(m.getModifiers()) && names.contains(m.getName()) ? 1 : 0,
                    0);
        }
        Class<?>[] inside = PurserLedgers.class.getDeclaredClasses();
        Due.is("at most 11 classes inside", inside.length <= 11 ? 1 : 0, 1);
        for (Class<?> c : inside) {
            Due.is(c + " is static and not public", Modifier.isStatic(c.getModifiers())
                    && !Modifier.isPublic(c.getModifiers()) ? 1 : 0, 1);
            Due.is(c + " has at most 20 fields", c.getDeclaredFields().length <= 20 ? 1 : 0, 1);
            for (Method m : c.getDeclaredMethods()) {
                Due.is(m + " bears no public name", names.contains(m.getName()) ? 1 : 0, 0);
                Due.is(m + " has at most 7 parameters", m.getParameterCount() <= 7 ? 1 : 0, 1);
            }
        }
    }

    /** Line by line, so that names of arguments and the order count, too. */
    private static void lines() throws IOException {
        StringBuilder lines = new StringBuilder();
        for (String line : Files.readAllLines(Path.of(SOURCE))) {
            if (line.startsWith("    public ")) {
                lines.append(line.strip().replaceAll(" \\{$", ";")).append('\n');
            }
        }
        Due.is("lines of the document's face", Document.faceLines().size(), 34);
        Due.same("the face", lines.toString(), String.join("\n", Document.faceLines()) + "\n");
    }

    private static void headings() throws IOException {
        List<String> headings = new ArrayList<>();
        for (String line : Files.readAllLines(Path.of(SOURCE))) {
            Matcher call = Pattern.compile("    public int (\\w+)\\(.*").matcher(line);
            int last = headings.size() - 1;
            if (line.startsWith("    // ----")) {
                headings.add(line.substring(7) + ":");
            } else if (call.matches() && last >= 0) {
                String sign = headings.get(last).endsWith(":") ? " " : ", ";
                headings.set(last, headings.get(last) + sign + call.group(1));
            }
        }
        Due.is("headings of the document", Document.headings().size(), 6);
        Due.same("headings", String.join("\n", headings), String.join("\n", Document.headings()));
    }

    private static void source() throws IOException {
        String text = Files.readString(Path.of(SOURCE));
        String code = text.replaceAll("(?s)/\\*.*?\\*/", "").replaceAll("//.*", "");
        List<String> banned = List.of("\\bthrow\\b", "\\btry\\b", "\\bcatch\\b", "\\bimport\\b", "\\bpackage\\b", "->", "::",
                "\\bsynchronized\\b", "\\bassert\\b", "\\bwhile\\b", "\\bdouble\\b", "\\bString\\b", "\\bSystem\\b", "@",
                "\\bprotected\\b", "\\bvolatile\\b", "Exact\\b", "\"");
        for (String word : banned) {
            Matcher m = Pattern.compile(word).matcher(code);
            Due.is("the source holds " + word, m.find() ? 1 : 0, 0);
        }
        Due.is("signs of the source are plain", text.chars().allMatch(c -> c == '\n' || c >= 32 && c < 127) ? 1 : 0, 1);
    }
}
