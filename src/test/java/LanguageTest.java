import java.io.IOException;
import java.lang.reflect.Constructor;
import java.lang.reflect.Field;
import java.lang.reflect.Method;
import java.lang.reflect.Modifier;
import java.nio.file.Files;
import java.nio.file.Path;
import java.util.List;
import java.util.Set;
import java.util.TreeSet;
import java.util.regex.Matcher;
import java.util.regex.Pattern;

/** The rules of LANGUAGE.md that a machine can look at, and the face of the class. */
public final class LanguageTest {
    private static final Path SOURCE = Path.of("src/main/java/TypeHouse.java");
    private static final Check c = new Check();

    private static final String FACE = "feed(long,int) cast(int,int) sorts(int) page() set(int,int) misset(int,int,int)"
        + " distribute(int) at(int,int,int) faults(int) fault(int,int) sheet(int,int,int) fold(int,int,int,int,int)"
        + " impose(int,int) breakUp(int) paper(int) print(int,int,int) forme(int,int) state(int,int,int)"
        + " read(int,int,int,int) spoil(int,int,int) books() inBook(int,int) unlike(int,int) kinds()"
        + " seen(int,int,int) order(int) ordered(int) rivals() law() wages(int) did(int,int) job(int,int,int)"
        + " plan() planned(int,int) count(int)";

    public static void main(String[] args) throws IOException {
        face();
        hiddenMembers();
        String code = withoutComments(Files.readString(SOURCE));
        words(code);
        methodLengths(Files.readAllLines(SOURCE));
        c.end();
    }

    private static void face() {
        c.part("rule 1, the face");
        Set<String> found = new TreeSet<>();
        for (Method method : TypeHouse.class.getDeclaredMethods()) {
            if (!Modifier.isPrivate(method.getModifiers())) {
                StringBuilder text = new StringBuilder(method.getName()).append('(');
                for (Class<?> type : method.getParameterTypes()) {
                    text.append(text.charAt(text.length() - 1) == '(' ? "" : ",").append(type.getName());
                }
                found.add(text.append(')').toString());
                c.due(method.getName() + " is public", Modifier.isPublic(method.getModifiers()) ? 1 : 0, 1);
                c.due(method.getName() + " answers an int", method.getReturnType() == int.class ? 1 : 0, 1);
            }
        }
        c.due("methods are " + found, found.equals(new TreeSet<>(List.of(FACE.split(" ")))) ? 1 : 0, 1);
        Constructor<?>[] made = TypeHouse.class.getDeclaredConstructors();
        c.due("constructors", made.length, 1);
        c.due("constructor's parameters", made[0].getParameterCount(), 0);
        c.due("final", Modifier.isFinal(TypeHouse.class.getModifiers()) ? 1 : 0, 1);
        Set<String> constants = new TreeSet<>();
        for (Field field : TypeHouse.class.getDeclaredFields()) {
            if (!Modifier.isPrivate(field.getModifiers())) {
                constants.add(field.getName());
            }
        }
        c.due("constants are " + constants, constants.equals(Set.of("NONE", "BAD", "STATE", "FULL")) ? 1 : 0, 1);
    }

    private static void hiddenMembers() {
        c.part("rules 1, 2, 5, 11");
        Set<String> publicNames = new TreeSet<>();
        for (Method method : TypeHouse.class.getMethods()) {
            publicNames.add(method.getName());
        }
        Class<?>[] inside = TypeHouse.class.getDeclaredClasses();
        c.due("some twelve classes", inside.length < 12 ? 1 : 0, 1);
        for (Class<?> own : inside) {
            c.due(own + " is static", Modifier.isStatic(own.getModifiers()) ? 1 : 0, 1);
            membersOf(own, publicNames);
        }
        membersOf(TypeHouse.class, publicNames);
    }

    private static void membersOf(Class<?> own, Set<String> publicNames) {
        for (Method method : own.getDeclaredMethods()) {
            boolean face = own == TypeHouse.class && Modifier.isPublic(method.getModifiers());
            c.due(method + " has a name of its own", !face && publicNames.contains(method.getName()) ? 1 : 0, 0);
            c.due(method + " parameters", method.getParameterCount() <= 7 ? 1 : 0, 1);
        }
        int fields = 0;
        for (Field field : own.getDeclaredFields()) {
            if (Modifier.isStatic(field.getModifiers())) {
                c.due(field + " is final", Modifier.isFinal(field.getModifiers()) ? 1 : 0, 1);
            } else {
                fields++;
            }
        }
        c.due(own + " fields", fields <= 20 ? 1 : 0, 1);
    }

    private static String withoutComments(String source) {
        return source.replaceAll("(?s)/\\*.*?\\*/", "").replaceAll("//[^\n]*", "");
    }

    private static void words(String code) {
        c.part("rules 4, 6, 13");
        String[] refused = {"\\bthrow\\b", "\\bthrows\\b", "\\btry\\b", "\\bcatch\\b", "\\bsynchronized\\b", "\\bassert\\b",
            "->", "::", "Exact\\b", "\\bRandom\\b", "\\bThread\\b", "currentTimeMillis", "nanoTime", "\\bHashMap\\b",
            "\\bpackage\\b", "\\bvolatile\\b", "static\\s*\\{", "\\.stream\\("};
        for (String word : refused) {
            Matcher matcher = Pattern.compile(word).matcher(code);
            c.due(word + " is in the program", matcher.find() ? 1 : 0, 0);
        }
        Matcher imports = Pattern.compile("import ([^;]*);").matcher(code);
        while (imports.find()) {
            c.due("import " + imports.group(1), imports.group(1).equals("java.util.Arrays") ? 1 : 0, 1);
        }
    }

    private static void methodLengths(List<String> lines) {
        c.part("rule 11, short methods");
        Pattern head = Pattern.compile("^( {4}| {8})(?!(if|for|while|switch|do)\\b)\\S.*\\) \\{$");
        for (int k = 0; k < lines.size(); k++) {
            Matcher matcher = head.matcher(lines.get(k));
            if (matcher.matches()) {
                int end = k;
                while (!lines.get(end).equals(matcher.group(1) + "}")) {
                    end++;
                }
                c.due(lines.get(k).trim() + " lines", end - k + 1 <= 60 ? 1 : 0, 1);
            }
        }
    }
}
