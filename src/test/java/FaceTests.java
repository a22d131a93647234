import java.io.IOException;
import java.lang.reflect.Constructor;
import java.lang.reflect.Field;
import java.lang.reflect.Method;
import java.lang.reflect.Modifier;
import java.nio.file.Files;
import java.nio.file.Path;
import java.util.ArrayList;
import java.util.HashSet;
import java.util.List;
import java.util.Set;
import java.util.TreeSet;
import java.util.regex.Matcher;
import java.util.regex.Pattern;

/** The public face, and those rules of LANGUAGE.md that can be seen from the class and its source. */
public final class FaceTests {
    private static final String[] FACE = {"int game(int,int)", "int player(int,int)", "int deals(int,int)", "int type(int)",
        "int clear()", "int read()", "int lays(int)", "int exchanges(int,int)", "int undo()", "int card(int,int)",
        "int behind(int,int)", "int won()", "int lasts()", "int first(int)", "int again()", "int exchange(int,int)",
        "int cut(int,int)", "int note(int,int)", "int mark(int,int,int,int)", "int forget(int)", "int is()", "int look()",
        "int kinds(int)", "int ask(int)", "int against(int)", "int luck(int,int)", "int evenings(int,int)", "long part(int)",
        "int image(int)", "int from(int)", "int status(int)", "int count(int)", "long digest()"};
    private static final String[] FORBIDDEN = {"throw", "throws", "try", "catch", "finally", "synchronized", "assert", "import",
        "package", "System", "Random", "Thread", "native", "volatile", "protected", "hashCode", "toString", "->", "::"};

    private FaceTests() {
    }

    public static void main(String[] args) throws IOException {
        methods();
        constants();
        classesInside();
        source();
        Check.end("FaceTests");
    }

    private static void methods() {
        Set<String> open = new TreeSet<>();
        Set<String> openNames = new HashSet<>();
        List<String> hidden = new ArrayList<>();
        for (Method m : BeggarPile.class.getDeclaredMethods()) {
            if (Modifier.isPrivate(m.getModifiers())) {
                hidden.add(m.getName());
            } else {
                openNames.add(m.getName());
                open.add(signature(m));
                Check.holds(m + " is public and not static", m.getModifiers() == Modifier.PUBLIC);
            }
        }
        Check.holds("the methods are those of the document: " + open, open.equals(new TreeSet<>(List.of(FACE))));
        for (String name : hidden) {
            Check.holds("a private method has a name of its own: " + name, !openNames.contains(name));
        }
        Constructor<?>[] made = BeggarPile.class.getDeclaredConstructors();
        Check.due("constructors", made.length, 1);
        Check.holds("it is public", Modifier.isPublic(made[0].getModifiers()) && made[0].getParameterCount() == 0);
        Check.holds("the class is public and final", BeggarPile.class.getModifiers() == (Modifier.PUBLIC | Modifier.FINAL));
    }

    private static String signature(Method m) {
        StringBuilder words = new StringBuilder();
        for (Class<?> type : m.getParameterTypes()) {
            words.append(words.length() == 0 ? "" : ",").append(type.getName());
        }
        return m.getReturnType().getName() + " " + m.getName() + "(" + words + ")";
    }

    private static void constants() {
        Check.due("NONE", BeggarPile.NONE, -1);
        Check.due("BAD", BeggarPile.BAD, -2);
        Check.due("NO", BeggarPile.NO, -3);
        Check.due("FULL", BeggarPile.FULL, -4);
        int open = 0;
        for (Field f : BeggarPile.class.getDeclaredFields()) {
            if (!Modifier.isPrivate(f.getModifiers())) {
                open++;
            }
            staticsAreFinal(f);
        }
        Check.due("fields that are not private", open, 4);
    }

    private static void staticsAreFinal(Field f) {
        if (Modifier.isStatic(f.getModifiers())) {
            Check.holds(f + " is final", Modifier.isFinal(f.getModifiers()));
        }
    }

    private static void classesInside() {
        Class<?>[] inside = BeggarPile.class.getDeclaredClasses();
        Check.holds("at most some twelve classes", inside.length <= 11);
        for (Class<?> c : inside) {
            Check.holds(c + " is static", Modifier.isStatic(c.getModifiers()));
            Check.holds(c + " is not public", !Modifier.isPublic(c.getModifiers()) && !Modifier.isProtected(c.getModifiers()));
            int fields = 0;
            for (Field f : c.getDeclaredFields()) {
                staticsAreFinal(f);
                fields += Modifier.isStatic(f.getModifiers()) ? 0 : 1;
            }
            Check.holds(c + " has some twenty fields at most", fields <= 20);
            for (Method m : c.getDeclaredMethods()) {
                Check.holds(m + " takes at most seven", m.getParameterCount() <= 7);
            }
        }
    }

    private static void source() throws IOException {
        String path = System.getProperty("source", "src/main/java/BeggarPile.java");
        String code = Files.readString(Path.of(path)).replaceAll("(?s)/\\*.*?\\*/", " ").replaceAll("//[^\n]*", " ");
        for (String word : FORBIDDEN) {
            String pattern = word.matches("[A-Za-z]+") ? "\\b" + word + "\\b" : Pattern.quote(word);
            Matcher m = Pattern.compile(pattern).matcher(code);
            Check.holds("the source has no " + word, !m.find());
        }
        Check.holds("the source has signs 1 to 127 alone", code.chars().allMatch(c -> c >= 1 && c <= 127));
        methodsStayShort(code.split("\n"));
    }

    private static void methodsStayShort(String[] lines) {
        Pattern head = Pattern.compile("( {4}| {8})(?! |else|for|if|switch|while).*\\) \\{");
        int methods = 0;
        for (int i = 0; i < lines.length; i++) {
            Matcher m = head.matcher(lines[i]);
            if (m.matches()) {
                int end = i;
                while (end < lines.length && !lines[end].equals(m.group(1) + "}")) {
                    end++;
                }
                methods++;
                Check.holds("some sixty lines at most: " + lines[i].trim(), end - i < 60);
            }
        }
        Check.holds("methods were found", methods > FACE.length);
    }
}
