import java.io.IOException;
import java.lang.reflect.Constructor;
import java.lang.reflect.Field;
import java.lang.reflect.Method;
import java.lang.reflect.Modifier;
import java.nio.file.Files;
import java.nio.file.Path;
import java.util.Arrays;
import java.util.Set;
import java.util.TreeSet;
import java.util.regex.Matcher;
import java.util.regex.Pattern;

/** The public face of the document, and the rules of LANGUAGE.md that can be read off the class. */
public final class LanguageTest {
    private static final Path SOURCE = Path.of("src/main/java/SpotRows.java");
    private static final int LONGEST_METHOD = 60;

    private static final String[] FACE = {
        "int status()", "long top()", "long bottom()", "boolean tray(int,int,int)",
        "boolean write(int,int,long)", "long read(int,int)", "boolean pour(int,int,int,int,int)",
        "int eye()", "boolean tell(int,int,int,int)", "boolean unsay(int,int)",
        "boolean book(int,int,int,int)", "int told(int,int,int)", "int days(int)",
        "boolean rules(int,int)", "int both(int,int)", "int factor(int,int)", "int middle(int,int)",
        "int step(int,int,int)", "int blind(int,int)", "int active(int,int,int)", "int chain(int,int)",
        "int weight(int)", "int loop(int,int,int)", "int day(int)", "int month(int)",
        "int smooth(int,int)", "int turn(int,int,int,boolean)", "int change(int,int)"};

    private static final String[] FORBIDDEN = {
        "throw", "throws", "try", "catch", "finally", "synchronized", "assert", "hashCode", "toString",
        "protected", "native", "volatile", "transient", "package", "Object", "var", "this", "super"};

    private static final Due due = new Due();

    public static void main(String[] args) throws IOException {
        face();
        classesInside();
        for (Class<?> inside : SpotRows.class.getDeclaredClasses()) {
            members(inside);
        }
        members(SpotRows.class);
        source(withoutComments(Files.readString(SOURCE)));
        due.end("LanguageTest");
    }

    private static void face() {
        due.yes("the class is final", Modifier.isFinal(SpotRows.class.getModifiers()));
        Set<String> open = new TreeSet<>();
        Set<String> closed = new TreeSet<>();
        for (Method method : SpotRows.class.getDeclaredMethods()) {
            String types = String.join(",", Arrays.stream(method.getParameterTypes())
                .map(Class::getName).toList());
            String told = method.getReturnType().getName() + " " + method.getName() + "(" + types + ")";
            if (Modifier.isPrivate(method.getModifiers())) {
                closed.add(method.getName());
            } else {
                due.yes(told + " is public", Modifier.isPublic(method.getModifiers()));
                due.yes(told + " is not static", !Modifier.isStatic(method.getModifiers()));
                open.add(told);
            }
        }
        due.yes("the face is " + open, open.equals(new TreeSet<>(Arrays.asList(FACE))));
        for (String method : FACE) {
            String name = method.substring(method.indexOf(' ') + 1, method.indexOf('('));
            due.yes("no private method is named " + name, !closed.contains(name));
        }
        Constructor<?>[] makers = SpotRows.class.getDeclaredConstructors();
        due.is("constructors", makers.length, 1);
        due.yes("it is public", Modifier.isPublic(makers[0].getModifiers()));
        due.is("its arguments", makers[0].getParameterCount(), 0);
        for (Field field : SpotRows.class.getDeclaredFields()) {
            boolean isNone = field.getName().equals("NONE");
            due.yes(field + " is rightly open", isNone == !Modifier.isPrivate(field.getModifiers()));
        }
    }

    private static void classesInside() {
        Class<?>[] inside = SpotRows.class.getDeclaredClasses();
        due.yes("at most twelve classes", inside.length < 12);
        for (Class<?> one : inside) {
            due.yes(one + " is static", Modifier.isStatic(one.getModifiers()));
            due.yes(one + " is not public", !Modifier.isPublic(one.getModifiers()));
        }
    }

    private static void members(Class<?> one) {
        int fields = 0;
        for (Field field : one.getDeclaredFields()) {
            if (Modifier.isStatic(field.getModifiers())) {
                due.yes(field + " is final", Modifier.isFinal(field.getModifiers()));
            } else {
                fields++;
            }
        }
        due.yes(one + " has at most twenty fields", fields <= 20);
        for (Method method : one.getDeclaredMethods()) {
            due.yes(method + " takes at most seven", method.getParameterCount() <= 7);
            due.yes(method + " has its own name", one == SpotRows.class || !isOfFace(method.getName()));
        }
    }

    private static boolean isOfFace(String name) {
        return Arrays.stream(FACE).anyMatch(method -> method.contains(" " + name + "("));
    }

    private static String withoutComments(String text) {
        return text.replaceAll("(?s)/\\*.*?\\*/", "").replaceAll("//[^\n]*", "");
    }

    private static void source(String text) {
        for (String word : FORBIDDEN) {
            due.yes("no " + word, !Pattern.compile("\\b" + word + "\\b").matcher(text).find());
        }
        due.yes("no lambda", !text.contains("->"));
        due.yes("no method reference", !text.contains("::"));
        due.yes("no static initialiser", !Pattern.compile("static\\s*\\{").matcher(text).find());
        due.yes("signs 0 to 127 alone", text.chars().allMatch(sign -> sign < 128));
        Matcher imports = Pattern.compile("import ([^;]*);").matcher(text);
        while (imports.find()) {
            due.yes("import " + imports.group(1), imports.group(1).equals("java.util.Arrays"));
        }
        Matcher calls = Pattern.compile("\\b(Arrays|System|Math|Integer|Long)\\.(\\w+)").matcher(text);
        Set<String> allowed = Set.of("Arrays.fill", "System.arraycopy", "Math.min", "Math.max");
        while (calls.find()) {
            if (!text.startsWith("java.util.", Math.max(0, calls.start() - 10))) {
                due.yes(calls.group() + " is in the list", allowed.contains(calls.group()));
            }
        }
        rowsAreMadeInConstructors(text);
        methodsAreShort(text);
    }

    /** "new" stands only where a final field gets its value, and a method can't do that. */
    private static void rowsAreMadeInConstructors(String text) {
        Matcher made = Pattern.compile("([^\n]*)\\bnew\\b").matcher(text);
        while (made.find()) {
            String field = made.group(1).trim().replace(" =", "").trim();
            Pattern kept = Pattern.compile("private final [\\w\\[\\]]+ " + Pattern.quote(field) + ";");
            due.yes("new stands for a field: " + made.group(1), kept.matcher(text).find());
        }
    }

    /** A method ends at the first brace that stands as far in as its first line. */
    private static void methodsAreShort(String text) {
        String[] lines = text.split("\n", -1);
        Pattern head = Pattern.compile("^( {4}| {8})[a-z][\\w\\[\\] ]*\\(.*\\{$");
        int methods = 0;
        for (int line = 0; line < lines.length; line++) {
            Matcher found = head.matcher(lines[line]);
            if (found.find() && !lines[line].trim().matches("(if|for|while|switch)\\b.*")) {
                int last = line;
                while (last < lines.length && !lines[last].equals(found.group(1) + "}")) {
                    last++;
                }
                due.yes("short: " + lines[line].trim(), last - line < LONGEST_METHOD);
                methods++;
            }
        }
        due.yes("methods are found", methods > FACE.length);
    }
}
