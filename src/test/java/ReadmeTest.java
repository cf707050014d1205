import java.io.IOException;
import java.lang.reflect.Method;
import java.lang.reflect.Modifier;
import java.nio.file.Files;
import java.nio.file.Path;
import java.util.ArrayList;
import java.util.Arrays;
import java.util.HashMap;
import java.util.List;
import java.util.Map;
import java.util.Set;
import java.util.TreeSet;
import java.util.regex.Matcher;
import java.util.regex.Pattern;
import java.util.stream.Stream;

/** What README.md says is so: its example, its findings, its calls, the names of its tests. */
public final class ReadmeTest {
    private static final Due due = new Due();

    public static void main(String[] args) throws IOException, ReflectiveOperationException {
        String page = Files.readString(Path.of("README.md"));
        example(page);
        findings(page);
        calls(page);
        texts(page);
        tests(page);
        due.end();
    }

    /** Plays the example line by line; each comment begins with the answer. */
    private static void example(String page) throws ReflectiveOperationException {
        int start = page.indexOf("```java\n");
        String[] lines = page.substring(start, page.indexOf("\n```\n", start)).split("\n");
        Pattern form = Pattern.compile("(?:int (\\w+) = )?square\\.(\\w+)\\((.*?)\\); +// (-?\\d+): .*");
        LavenderParts square = new LavenderParts();
        Map<String, Integer> names = new HashMap<>();
        int played = 0;
        for (String line : lines) {
            Matcher m = form.matcher(line);
            if (m.matches()) {
                long got = call(square, m.group(2), numbers(m.group(3), names));
                due.is(line, got, Long.parseLong(m.group(4)));
                names.put(m.group(1) == null ? "" : m.group(1), (int) got);
                played++;
            }
        }
        // The fence and the constructor apart, no line may go by unplayed.
        due.is("lines of the example that were played", played, lines.length - 2);
    }

    private static int[] numbers(String arguments, Map<String, Integer> names) {
        return Stream.of(arguments.split(", ")).filter(a -> !a.isEmpty())
            .mapToInt(a -> names.containsKey(a) ? names.get(a) : Integer.decode(a)).toArray();
    }

    private static long call(LavenderParts x, String name, int... arguments)
        throws ReflectiveOperationException {
        Class<?>[] types = new Class<?>[arguments.length];
        Arrays.fill(types, int.class);
        Method method = LavenderParts.class.getMethod(name, types);
        return ((Number) method.invoke(x, Arrays.stream(arguments).boxed().toArray())).longValue();
    }

    private static void findings(String page) {
        List<String> rows = rows(page, "\\| (-\\d+ \\| [A-Z]+ \\| \\d+) \\|");
        List<String> want = List.of(Due.BEYOND + " | BEYOND | 0", Due.FULL + " | FULL | 1",
            Due.KIND + " | KIND | 2", Due.NONE + " | NONE | 3", Due.STATE + " | STATE | 4",
            Due.MISSING + " | MISSING | 5", Due.SIZE + " | SIZE | 6");
        due.is("findings " + rows, rows.equals(want) ? 1 : 0, 1);
    }

    /** Each call of the face has one row, with the findings that its promise tells, in their order. */
    private static void calls(String page) {
        Set<String> listed = new TreeSet<>();
        Matcher row = Pattern.compile("(?m)^\\| `(\\w+)\\((.*?)\\)` \\| .* \\| ?([A-Z, ]*)\\|$").matcher(page);
        while (row.find()) {
            String name = row.group(1);
            int many = row.group(2).isEmpty() ? 0 : row.group(2).split(", ").length;
            due.is("twice: " + name, listed.add(name + " " + many) ? 1 : 0, 1);
            String asked = Document.findings(name);
            String told = row.group(3).trim();
            due.is(name + " tells " + told + ", the document " + asked,
                asked == null || told.equals(asked) ? 1 : 0, 1);
            due.is(name + " names other arguments than the document",
                Document.hasFace(name + "(" + row.group(2) + ")") ? 1 : 0, 1);
        }
        Set<String> face = new TreeSet<>();
        for (Method m : LavenderParts.class.getDeclaredMethods()) {
            if (Modifier.isPublic(m.getModifiers())) {
                face.add(m.getName() + " " + m.getParameterCount());
            }
        }
        due.is("calls " + listed, listed.equals(face) ? 1 : 0, 1);
    }

    /** The words of the last paragraph of Calls, in the order in which they stand there, are a text. */
    private static void texts(String page) {
        int start = page.indexOf("A text is items with");
        List<String> words = rows(page.substring(start, page.indexOf("## Tests")), "`([a-z0-9 ]+)`");
        for (String kind : words.subList(0, 7)) {
            LavenderParts x = new LavenderParts();
            due.is("a " + kind + " and somebody to answer", Due.read(x, "singer;" + kind), 2);
            String all = kind + " " + String.join(" ", words.subList(7, 12));
            due.is(all, Due.read(x, all), 1);
            due.is(String.join(";", words.subList(12, 14)), Due.read(x, String.join(";", words.subList(12, 14))), 2);
        }
        due.is("words of texts", words.size(), 14);
    }

    private static void tests(String page) throws IOException {
        Set<String> named = new TreeSet<>(rows(page, "`(\\w+Test)`"));
        Set<String> there = new TreeSet<>();
        try (Stream<Path> files = Files.list(Path.of("src/test/java"))) {
            files.map(file -> file.getFileName().toString()).filter(name -> name.endsWith("Test.java"))
                .forEach(name -> there.add(name.replace(".java", "")));
        }
        due.is("tests " + named, named.equals(there) ? 1 : 0, 1);
    }

    private static List<String> rows(String page, String pattern) {
        List<String> row = new ArrayList<>();
        Matcher m = Pattern.compile(pattern).matcher(page);
        while (m.find()) {
            row.add(m.group(1));
        }
        return row;
    }
}
