import java.io.IOException;
import java.lang.reflect.Field;
import java.lang.reflect.Method;
import java.lang.reflect.Modifier;
import java.nio.charset.StandardCharsets;
import java.nio.file.Files;
import java.nio.file.Path;
import java.util.ArrayList;
import java.util.List;
import java.util.Set;
import java.util.TreeSet;
import java.util.regex.Matcher;
import java.util.regex.Pattern;

/** Those rules of LANGUAGE.md that can be seen from the text of PostGate.java and from its classes. */
public final class LanguageTest {
    private static final String[] FORBIDDEN = {"import (?!java\\.util\\.)", "package", "synchronized", "assert", "finally",
        "System\\.(?!arraycopy)", "\\w+Exact\\b", "->", "::", "getMessage", "hashCode", "Thread", "Random"};
    private static final int MOST_LINES = 60, MOST_PARAMETERS = 7, MOST_CLASSES = 12, MOST_FIELDS = 20;

    public static void main(String[] args) throws IOException {
        String text = Files.readString(Path.of("src", "main", "java", "PostGate.java"), StandardCharsets.UTF_8);
        words(withoutComments(text));
        lengths(text);
        List<Class<?>> classes = new ArrayList<>(List.of(PostGate.class.getDeclaredClasses()));
        classes.add(PostGate.class);
        Gate.due("rule 11: at most " + MOST_CLASSES + " classes", classes.size() <= MOST_CLASSES ? 1 : 0, 1);
        for (Class<?> part : classes) {
            fields(part);
            methods(part);
        }
        Gate.finish("LanguageTest");
    }

    private static String withoutComments(String text) {
        return text.replaceAll("(?s)/\\*.*?\\*/", "").replaceAll("//[^\n]*", "");
    }

    private static void words(String text) {
        for (String word : FORBIDDEN) {
            boolean plain = word.matches("[a-z]+");
            Matcher found = Pattern.compile(plain ? "\\b" + word + "\\b" : word).matcher(text);
            Gate.due("rules 4, 6: no " + word, found.find() ? 1 : 0, 0);
        }
    }

    /** A method begins with a line of four or eight blanks that ends with "{", and ends with "}" below its first sign. */
    private static void lengths(String text) {
        String[] lines = text.split("\n");
        for (int i = 0; i < lines.length; i++) {
            Matcher head = Pattern.compile("( {4}| {8})(?! )[^=]*\\(.*\\) \\{").matcher(lines[i]);
            if (!head.matches()) {
                continue;
            }
            int end = i;
            while (end < lines.length && !lines[end].equals(head.group(1) + "}")) {
                end++;
            }
            Gate.due("rule 11: short is " + lines[i].trim(), end - i < MOST_LINES ? 1 : 0, 1);
        }
    }

    private static void fields(Class<?> part) {
        int own = 0;
        for (Field field : part.getDeclaredFields()) {
            boolean constant = Modifier.isStatic(field.getModifiers());
            own += constant ? 0 : 1;
            if (constant) {
                Gate.due("rule 5: final is " + field, Modifier.isFinal(field.getModifiers()) ? 1 : 0, 1);
                Class<?> type = field.getType().isArray() ? field.getType().getComponentType() : field.getType();
                Gate.due("rule 5: the type of " + field, type.isPrimitive() || type == String.class ? 1 : 0, 1);
            }
        }
        Gate.due("rule 11: few are the fields of " + part, own <= MOST_FIELDS ? 1 : 0, 1);
    }

    private static void methods(Class<?> part) {
        Set<String> face = new TreeSet<>();
        for (Method method : PostGate.class.getDeclaredMethods()) {
            if (Modifier.isPublic(method.getModifiers())) {
                face.add(method.getName());
            }
        }
        for (Method method : part.getDeclaredMethods()) {
            Gate.due("rule 11: parameters of " + method, method.getParameterCount() <= MOST_PARAMETERS ? 1 : 0, 1);
            boolean shown = Modifier.isPublic(method.getModifiers());
            Gate.due("rule 1: the name of " + method, shown || !face.contains(method.getName()) ? 1 : 0, 1);
        }
        boolean inside = part != PostGate.class;
        Gate.due("rule 1: static is " + part, !inside || Modifier.isStatic(part.getModifiers()) ? 1 : 0, 1);
        Gate.due("rule 1: not public is " + part, inside && Modifier.isPublic(part.getModifiers()) ? 1 : 0, 0);
    }
}
