import java.io.IOException;
import java.lang.reflect.Field;
import java.lang.reflect.Method;
import java.lang.reflect.Modifier;
import java.nio.file.Files;
import java.nio.file.Path;
import java.util.ArrayList;
import java.util.Arrays;
import java.util.HashSet;
import java.util.List;
import java.util.Set;
import java.util.regex.Matcher;
import java.util.regex.Pattern;

/** The public face, and those rules of LANGUAGE.md that a look at the class or its text can tell. */
public final class LanguageTest {
    private static final Due due = new Due();

    private static final String[] FACE = {
        "int check(int,int,int,int,int,int,boolean)", "int begin()", "int ran(int,boolean)", "int end()", "int fact(int,int)",
        "int room(int)", "int about(int,int)", "int frozen(int,int)", "int frozenAt(int)", "int lamp()", "int clear()",
        "int cause(int,int)", "int explains(int)", "int least()", "int leastAt(int)", "int plan()", "int test()",
        "int foretells(int,int)", "int sets(int)", "int count(int)", "long digest()"};

    private static final String[] NOT_IN_THE_LANGUAGE = {
        "\\b(throw|throws|try|catch|finally|synchronized|assert|import|package|native|volatile|transient|strictfp|var)\\b",
        "->", "::", "@", "\\bthis\\s*\\(", "\\bnew\\s+\\w+\\s*\\([^()]*\\)\\s*\\{", "[^\\x00-\\x7f]",
        "\\b(equals|hashCode|toString)\\b", "\\b\\w+Exact\\b", "\\b(Thread|Object|Random|System\\.(?!arraycopy))\\b", "\""};

    public static void main(String[] args) throws IOException {
        face();
        members();
        text();
        library();
        methodsAreShort();
        due.finish();
    }

    private static void face() {
        List<String> found = new ArrayList<>();
        Set<String> names = new HashSet<>();
        for (Method method : TroubleCodes.class.getDeclaredMethods()) {
            if (!Modifier.isPublic(method.getModifiers())) continue;
            String kinds = Arrays.toString(method.getParameterTypes()).replaceAll("[\\[\\] ]", "");
            found.add(method.getReturnType() + " " + method.getName() + "(" + kinds + ")");
            names.add(method.getName());
        }
        for (String want : FACE) due.is("the face has " + want, found.contains(want) ? 1 : 0, 1);
        due.is("methods of the face", found.size(), FACE.length);
        due.is("constructors", TroubleCodes.class.getDeclaredConstructors().length, 1);
        due.is("the class is public and final", TroubleCodes.class.getModifiers(), Modifier.PUBLIC | Modifier.FINAL);
        for (Class<?> one : TroubleCodes.class.getDeclaredClasses()) {
            due.is(one + " is static", Modifier.isStatic(one.getModifiers()) ? 1 : 0, 1);
            due.is(one + " is not public", one.getModifiers() & (Modifier.PUBLIC | Modifier.PROTECTED), 0);
            for (Method method : one.getDeclaredMethods()) {
                due.is(one + " has a name of the face: " + method.getName(), names.contains(method.getName()) ? 1 : 0, 0);
            }
        }
    }

    private static void members() {
        for (Method method : TroubleCodes.class.getDeclaredMethods()) {
            int kind = method.getModifiers() & (Modifier.PUBLIC | Modifier.PRIVATE);
            due.is(method + " is public or private", kind == 0 ? 0 : 1, 1);
            due.is("at most seven parameters of " + method, Math.max(method.getParameterCount(), 7), 7);
        }
        for (Field field : TroubleCodes.class.getDeclaredFields()) {
            boolean constant = List.of("NONE", "BAD", "NO", "FULL").contains(field.getName());
            due.is(field + " is private", Modifier.isPrivate(field.getModifiers()) ? 1 : 0, constant ? 0 : 1);
        }
        for (Class<?> one : new Class<?>[] {TroubleCodes.class, TroubleCodes.class.getDeclaredClasses()[0],
            TroubleCodes.class.getDeclaredClasses()[1]}) {
            int own = 0;
            for (Field field : one.getDeclaredFields()) {
                boolean isStatic = Modifier.isStatic(field.getModifiers());
                if (isStatic) due.is(field + " is final", Modifier.isFinal(field.getModifiers()) ? 1 : 0, 1);
                else own++;
            }
            due.is("at most twenty fields in " + one, Math.max(own, 20), 20);
        }
    }

    private static String source() throws IOException {
        return Files.readString(Path.of("src/main/java/TroubleCodes.java"));
    }

    /** The text without its comments. */
    private static String code() throws IOException {
        return source().replaceAll("(?s)/\\*.*?\\*/", "").replaceAll("//[^\n]*", "");
    }

    private static void text() throws IOException {
        String code = code();
        for (String rule : NOT_IN_THE_LANGUAGE) {
            Matcher matcher = Pattern.compile(rule).matcher(code);
            due.is("in the text: " + rule, matcher.find() ? 1 : 0, 0);
        }
    }

    /** Each name that begins like a class is one of the program's own, or a function of the library that the rules list. */
    private static void library() throws IOException {
        Set<String> known = new HashSet<>(List.of("TroubleCodes", "Integer.bitCount", "System.arraycopy"));
        Class<?>[] inside = TroubleCodes.class.getDeclaredClasses();
        for (Class<?> one : inside) known.add(one.getSimpleName());
        due.is("at most twelve classes", Math.max(inside.length + 1, 12), 12);
        Matcher matcher = Pattern.compile("\\b([A-Z]\\w*[a-z]\\w*)(\\.[a-z]\\w*)?").matcher(code());
        while (matcher.find()) {
            boolean fine = known.contains(matcher.group(1)) || known.contains(matcher.group());
            due.is("in the language: " + matcher.group(), fine ? 1 : 0, 1);
        }
    }

    /** By the indents of the file: from a line that opens a method to the line that closes it. */
    private static void methodsAreShort() throws IOException {
        String[] lines = source().split("\n");
        for (int i = 0; i < lines.length; i++) {
            Matcher open = Pattern.compile("( +)[\\w\\[\\] ]+\\([^;]*\\) \\{").matcher(lines[i]);
            if (!open.matches() || lines[i].matches(" +(if|for|while|switch|else|do)\\b.*")) continue;
            int end = i;
            while (end < lines.length && !lines[end].equals(open.group(1) + "}")) end++;
            due.is("lines of " + lines[i].trim(), Math.max(end - i, 60), 60);
        }
    }
}
