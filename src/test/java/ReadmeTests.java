import java.io.IOException;
import java.lang.reflect.Method;
import java.lang.reflect.Modifier;
import java.nio.file.Files;
import java.nio.file.Path;
import java.util.ArrayList;
import java.util.HashMap;
import java.util.HashSet;
import java.util.List;
import java.util.Map;
import java.util.Set;
import java.util.regex.Matcher;
import java.util.regex.Pattern;
import java.util.stream.Stream;

/** README.md: its examples answer as it says; it tells each call in its group with its refusals, and each test. */
public final class ReadmeTests {
    /** The groups as the interface has them, each call with the answers that its promise names. */
    private static final String[][] GROUPS = {
        {"A game", "game BAD", "player BAD", "deals BAD FULL", "type BAD FULL", "clear", "read -10"},
        {"Cards laid", "lays BAD NO", "exchanges BAD", "undo NO", "card BAD"},
        {"How it goes", "behind BAD", "won NONE", "lasts NONE", "first NONE BAD", "again NONE", "exchange NONE BAD", "cut NONE BAD"},
        {"What it is", "note BAD FULL", "mark BAD FULL", "forget BAD", "is", "look NONE", "kinds BAD", "ask NONE BAD",
            "against NONE -5 BAD -10", "luck BAD", "evenings BAD"},
        {"What there is", "part BAD", "image BAD", "from BAD NO", "status BAD -1", "count BAD", "digest"}};
    private static final String[] REFUSALS = {"BAD", "NO", "FULL", "-1", "-5", "-10"};
    private static final int MOST_CALLS = 512;

    private static final Pattern ROW = Pattern.compile("\\| `(\\w+)\\(([^)]*)\\)` \\|([^|]*)\\|([^|]*)\\|");
    private static final String NEW = "BeggarPile x = new BeggarPile();";
    private static final Pattern CALL = Pattern.compile("x\\.(\\w+)\\(([^)]*)\\);\\s+// (-?\\d+)(?:[,: ].*)?");
    private static final Pattern TYPED = Pattern.compile("for \\(char c : \"([^\"\\\\]*)\"\\.toCharArray\\(\\)\\) x\\.type\\(c\\);");

    private final Map<String, Method> face = new HashMap<>();
    private final Set<String> shown = new HashSet<>();
    private final List<String> lines;
    private BeggarPile x = null;
    private int calls = 0;

    private ReadmeTests(List<String> lines) {
        this.lines = lines;
        for (Method m : BeggarPile.class.getDeclaredMethods()) {
            if (Modifier.isPublic(m.getModifiers())) {
                face.put(m.getName(), m);
            }
        }
    }

    public static void main(String[] args) throws IOException {
        Path readme = Path.of(System.getProperty("readme", "README.md"));
        ReadmeTests page = new ReadmeTests(Files.readAllLines(readme));
        page.examples();
        page.groups();
        page.tests(readme.toAbsolutePath().resolveSibling("src/test/java"));
        Check.end("ReadmeTests");
    }

    private void examples() {
        boolean inside = false;
        for (String line : lines) {
            if (line.startsWith("```")) {
                inside = line.equals("```java");
                x = null;
            } else if (inside) {
                example(line);
            }
        }
        for (String call : face.keySet()) {
            Check.holds("an example shows " + call, shown.contains(call));
        }
    }

    private void example(String line) {
        Matcher call = CALL.matcher(line);
        Matcher typed = TYPED.matcher(line);
        if (line.equals(NEW)) {
            x = new BeggarPile();
            calls = 0;
        } else if (x != null && typed.matches()) {
            for (char c : typed.group(1).toCharArray()) {
                x.type(c);
                calls++;
            }
        } else if (x != null && call.matches() && face.containsKey(call.group(1))) {
            Check.due(line, answer(face.get(call.group(1)), numbers(call.group(2))), Long.parseLong(call.group(3)));
            shown.add(call.group(1));
            calls++;
        } else {
            Check.holds("a line of an example can be followed: " + line, false);
        }
        Check.holds("an example keeps to " + MOST_CALLS + " calls", calls <= MOST_CALLS);
    }

    private static Object[] numbers(String told) {
        List<Object> numbers = new ArrayList<>();
        for (String word : told.isBlank() ? new String[0] : told.split(", ")) {
            numbers.add(word.equals("BeggarPile.NONE") ? BeggarPile.NONE : Integer.parseInt(word));
        }
        return numbers.toArray();
    }

    private long answer(Method call, Object[] numbers) {
        try {
            return ((Number) call.invoke(x, numbers)).longValue();
        } catch (ReflectiveOperationException e) {
            throw new IllegalStateException(e);
        }
    }

    private void groups() {
        for (String[] group : GROUPS) {
            List<Matcher> rows = rowsUnder("### " + group[0]);
            Check.due("calls told under " + group[0], rows.size(), group.length - 1);
            for (int i = 0; i < rows.size() && i < group.length - 1; i++) {
                row(rows.get(i), List.of(group[i + 1].split(" ")));
            }
        }
    }

    private List<Matcher> rowsUnder(String heading) {
        List<Matcher> rows = new ArrayList<>();
        int at = lines.indexOf(heading);
        Check.holds("the page has " + heading, at >= 0);
        for (int i = at + 1; at >= 0 && i < lines.size() && !lines.get(i).startsWith("##"); i++) {
            Matcher row = ROW.matcher(lines.get(i));
            if (row.matches()) {
                rows.add(row);
            }
        }
        return rows;
    }

    private void row(Matcher row, List<String> due) {
        String name = row.group(1);
        Check.holds(name + " stands where " + due.get(0) + " is due", name.equals(due.get(0)));
        int told = row.group(2).isEmpty() ? 0 : row.group(2).split(", ").length;
        Check.due("numbers that " + name + " is told to take", told, face.get(due.get(0)).getParameterCount());
        Check.due("NONE told of " + name, names(row.group(3), "NONE") ? 1 : 0, due.contains("NONE") ? 1 : 0);
        for (String refusal : REFUSALS) {
            Check.due(refusal + " told of " + name, names(row.group(4), refusal) ? 1 : 0, due.contains(refusal) ? 1 : 0);
        }
    }

    private static boolean names(String words, String word) {
        return Pattern.compile("(?<![\\w-])" + word + "(?!\\w)").matcher(words).find();
    }

    private void tests(Path place) throws IOException {
        try (Stream<Path> files = Files.list(place)) {
            for (Path file : files.toList()) {
                String name = file.getFileName().toString().replace(".java", "");
                if (name.endsWith("Tests")) {
                    Check.holds("the page tells of " + name, lines.stream().anyMatch(line -> line.startsWith("| `" + name + "` |")));
                }
            }
        }
        Check.holds("the page tells of .ci/run", lines.contains(".ci/run"));
    }
}
