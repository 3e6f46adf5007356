import java.io.IOException;
import java.lang.reflect.Constructor;
import java.lang.reflect.Field;
import java.lang.reflect.Method;
import java.lang.reflect.Modifier;
import java.nio.file.Files;
import java.nio.file.Path;
import java.util.ArrayList;
import java.util.Arrays;
import java.util.List;
import java.util.Set;
import java.util.TreeSet;
import java.util.regex.Matcher;
import java.util.regex.Pattern;

/** What of LANGUAGE.md a search of the source and a look at the compiled class can tell. */
final class LanguageTest {
    private static final Set<String> FACE = Set.of(
        "type(int)", "erase()", "fault()", "settings()", "offer(int,int,int)", "secret(int,int)", "guess(int)",
        "early(int)", "hello()", "step(int)", "ticket(int)", "forget()", "say(int,int)", "update(int)", "fresh(int)",
        "pass(int)", "alter(int,int,int)", "drop(int)", "copy(int,int)", "inject(int,int)", "side(int,int)",
        "message(int,int)", "kept(int,int)", "held(int)", "share(int,int)", "count(int)");
    private static final Set<String> CONSTANTS = Set.of("NONE", "UNKNOWN", "OUTSIDE", "NOT", "FULL");
    private static final String[] FORBIDDEN = {"import", "package", "throw", "try", "catch", "finally", "synchronized",
        "assert", "throws", "equals", "hashCode", "toString", "instanceof", "Object", "System", "Exception", "->",
        "::", "@", "protected", "volatile", "transient", "native", "yield", "var"};
    private static final int MOST_LINES = 60, MOST_FIELDS = 20, MOST_CLASSES = 12, MOST_PARAMETERS = 7;

    private static final List<String> wrong = new ArrayList<>();

    public static void main(String[] args) throws IOException {
        Path file = Path.of(args.length > 0 ? args[0] : "src/main/java/ToyGreeting.java");
        String source = Files.readString(file);
        words(source);
        lengths(source);
        face();
        classes();
        wrong.forEach(line -> System.out.println("LanguageTest: " + line));
        System.out.println("LanguageTest: " + wrong.size() + " faults");
        if (!wrong.isEmpty()) {
            System.exit(1);
        }
    }

    private static void words(String source) {
        String code = source.replaceAll("(?s)/\\*.*?\\*/", " ").replaceAll("//[^\n]*", " ")
            .replaceAll("\"[^\"\n]*\"", "\"\"");
        for (String word : FORBIDDEN) {
            String edge = Character.isLetter(word.charAt(0)) ? "\\b" : "";
            if (Pattern.compile(edge + Pattern.quote(word) + edge).matcher(code).find()) {
                wrong.add("rules 1 to 6: '" + word + "' stands in the source");
            }
        }
        for (int i = 0; i < source.length(); i++) {
            if (source.charAt(i) > 126) {
                wrong.add("rule 4: a sign beyond 127 at " + i);
            }
        }
    }

    private static void lengths(String source) {
        Matcher method = Pattern.compile("(?m)^( {4}| {8})(?! )[^=;\n]*\\([^;\n]*\\{\\n").matcher(source);
        int methods = 0;
        while (method.find()) {
            methods++;
            int end = source.indexOf("\n" + method.group(1) + "}", method.end() - 1);
            long lines = source.substring(method.start(), Math.max(method.start(), end)).lines().count();
            if (lines > MOST_LINES) {
                wrong.add("rule 11: " + lines + " lines: " + method.group().trim());
            }
        }
        if (methods < FACE.size()) {
            wrong.add("the methods of the source were not found");
        }
    }

    private static void face() {
        Class<?> c = ToyGreeting.class;
        if (!Modifier.isPublic(c.getModifiers()) || !Modifier.isFinal(c.getModifiers())) {
            wrong.add("rule 1: the class is not public and final");
        }
        Set<String> methods = new TreeSet<>();
        for (Method m : c.getDeclaredMethods()) {
            if (!Modifier.isPrivate(m.getModifiers())) {
                methods.add(told(m.getName(), m.getParameterTypes()));
                if (m.getReturnType() != int.class || Modifier.isStatic(m.getModifiers())) {
                    wrong.add("rule 1: " + m);
                }
            }
        }
        if (!methods.equals(FACE)) {
            wrong.add("rule 1: the face is " + methods);
        }
        Set<String> constants = new TreeSet<>();
        for (Field f : c.getDeclaredFields()) {
            if (!Modifier.isPrivate(f.getModifiers())) {
                constants.add(f.getName());
            }
        }
        if (!constants.equals(CONSTANTS)) {
            wrong.add("rule 1: the constants are " + constants);
        }
        Constructor<?>[] all = c.getDeclaredConstructors();
        if (all.length != 1 || !Modifier.isPublic(all[0].getModifiers()) || all[0].getParameterCount() != 0) {
            wrong.add("rule 1: the constructors are " + Arrays.toString(all));
        }
    }

    private static void classes() {
        List<Class<?>> all = new ArrayList<>(List.of(ToyGreeting.class.getDeclaredClasses()));
        for (Class<?> c : all) {
            if (!Modifier.isStatic(c.getModifiers()) || Modifier.isPublic(c.getModifiers())
                    || Modifier.isProtected(c.getModifiers())) {
                wrong.add("rules 1 and 2: " + c);
            }
        }
        all.add(ToyGreeting.class);
        if (all.size() > MOST_CLASSES) {
            wrong.add("rule 11: " + all.size() + " classes");
        }
        for (Class<?> c : all) {
            members(c);
        }
    }

    private static void members(Class<?> c) {
        long fields = 0;
        for (Field f : c.getDeclaredFields()) {
            if (!Modifier.isStatic(f.getModifiers())) {
                fields++;
            } else if (!Modifier.isFinal(f.getModifiers()) || f.getType() != int.class) {
                wrong.add("rule 5: " + f);
            }
        }
        if (fields > MOST_FIELDS) {
            wrong.add("rule 11: " + fields + " fields in " + c);
        }
        for (Method m : c.getDeclaredMethods()) {
            if (m.getParameterCount() > MOST_PARAMETERS) {
                wrong.add("rule 11: " + m);
            }
            if (Modifier.isPrivate(m.getModifiers())
                    && FACE.stream().anyMatch(f -> f.startsWith(m.getName() + "("))) {
                wrong.add("rule 1: a private method of a public one's name: " + m);
            }
        }
    }

    private static String told(String name, Class<?>[] parameters) {
        StringBuilder text = new StringBuilder(name).append('(');
        for (int i = 0; i < parameters.length; i++) {
            text.append(i == 0 ? "" : ",").append(parameters[i].getSimpleName());
        }
        return text.append(')').toString();
    }
}
