import java.io.IOException;
import java.lang.reflect.Constructor;
import java.lang.reflect.Field;
import java.lang.reflect.Method;
import java.lang.reflect.Modifier;
import java.nio.file.Files;
import java.nio.file.Path;
import java.util.Arrays;
import java.util.Set;
import java.util.TreeSet;
import java.util.regex.Matcher;
import java.util.regex.Pattern;

/** The rules of LANGUAGE.md that can be looked up in the class and in its source (its first argument). */
public final class LanguageTest {
    private static final Pattern UNTOLD = Pattern.compile("\"[^\"]*\"|'[^']*'|//[^\n]*|(?s:/\\*.*?\\*/)");
    private static final String[] BANNED = {"throw", "try", "catch", "finally", "synchronized", "assert", "package",
        "protected", "->", "::", "Exact", "System.out", "Random", "currentTimeMillis", "nanoTime", "equals",
        "hashCode", "toString", "var", "static {", "char[]["};

    public static void main(String[] args) throws IOException {
        face();
        for (Class<?> inner : IceVote.class.getDeclaredClasses()) {
            inner(inner);
        }
        Due.due("classes", IceVote.class.getDeclaredClasses().length + 1 <= 12 ? 1 : 0, 1);
        if (args.length > 0) {
            source(Files.readString(Path.of(args[0])));
        }
        Due.end();
    }

    private static void face() {
        Due.due("public final", IceVote.class.getModifiers() & (Modifier.PUBLIC | Modifier.FINAL), 17);
        Set<String> due = new TreeSet<>();
        for (Calls call : Calls.values()) {
            due.add(call.call + " " + call.numbers());
        }
        Set<String> face = new TreeSet<>();
        for (Method method : IceVote.class.getDeclaredMethods()) {
            int modifiers = method.getModifiers();
            if (!Modifier.isPrivate(modifiers) && !method.isSynthetic()) {
                face.add(method.getName() + " " + method.getParameterCount());
                Due.due(method + " is public, not static", modifiers, Modifier.PUBLIC);
                boolean isLong = Set.of("part", "digest").contains(method.getName());
                Due.due(method + " answers", method.getReturnType() == (isLong ? long.class : int.class) ? 1 : 0, 1);
            } else {
                notOfTheFace(method);
            }
        }
        Due.due("the face's methods " + face, face.equals(due) ? 1 : 0, 1);
        Set<String> constants = new TreeSet<>();
        for (Field field : IceVote.class.getDeclaredFields()) {
            if (!Modifier.isPrivate(field.getModifiers())) {
                constants.add(field.getName());
                Due.due(field + " is a constant", field.getModifiers(), 1 | 8 | 16);
            }
        }
        Due.due("constants " + constants, constants.equals(Set.of("NONE", "BAD", "NO", "FULL")) ? 1 : 0, 1);
        Constructor<?>[] constructors = IceVote.class.getDeclaredConstructors();
        Due.due("constructors", constructors.length, 1);
        Due.due("its numbers", constructors[0].getParameterCount(), 0);
        Due.due("public", constructors[0].getModifiers(), Modifier.PUBLIC);
        Due.due("fields", fields(IceVote.class) <= 20 ? 1 : 0, 1);
    }

    private static void inner(Class<?> inner) {
        Due.due(inner + " is static", Modifier.isStatic(inner.getModifiers()) ? 1 : 0, 1);
        Due.due(inner + " is not public", inner.getModifiers() & (Modifier.PUBLIC | Modifier.PROTECTED), 0);
        Due.due(inner + " has some twenty fields", fields(inner) <= 20 ? 1 : 0, 1);
        for (Method method : inner.getDeclaredMethods()) {
            notOfTheFace(method);
        }
    }

    private static int fields(Class<?> type) {
        int fields = 0;
        for (Field field : type.getDeclaredFields()) {
            boolean isStatic = Modifier.isStatic(field.getModifiers());
            fields += isStatic ? 0 : 1;
            Due.due(field + ", if static, is final", isStatic && !Modifier.isFinal(field.getModifiers()) ? 1 : 0, 0);
        }
        return fields;
    }

    private static void notOfTheFace(Method method) {
        boolean named = Arrays.stream(Calls.values()).anyMatch(call -> call.call.equals(method.getName()));
        Due.due(method + " bears a name of the face", named ? 1 : 0, 0);
    }

    private static void source(String all) {
        String code = UNTOLD.matcher(all).replaceAll(" ");
        for (String banned : BANNED) {
            String pattern = Character.isLetter(banned.charAt(0)) ? "\\b" + Pattern.quote(banned) : Pattern.quote(banned);
            pattern += Character.isLetter(banned.charAt(banned.length() - 1)) ? "\\b" : "";
            Due.due("'" + banned + "' in the source", Pattern.compile(pattern).matcher(code).find() ? 1 : 0, 0);
        }
        Matcher imported = Pattern.compile("import ([^;]*);").matcher(code);
        while (imported.find()) {
            Due.due("import " + imported.group(1), imported.group(1).equals("java.util.Arrays") ? 1 : 0, 1);
        }
        Due.due("signs of the source beyond 127", all.chars().filter(c -> c > 127).count(), 0);
    }
}
