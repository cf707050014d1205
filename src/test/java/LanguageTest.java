import java.io.IOException;
import java.lang.reflect.Constructor;
import java.lang.reflect.Field;
import java.lang.reflect.Method;
import java.lang.reflect.Modifier;
import java.nio.file.Files;
import java.nio.file.Path;
import java.util.ArrayList;
import java.util.Arrays;
import java.util.List;
import java.util.Set;
import java.util.TreeSet;
import java.util.regex.Matcher;
import java.util.regex.Pattern;

/** The document's face and those rules of LANGUAGE.md that can be told from the outside. */
public final class LanguageTest {
    private static final Due due = new Due();

    private static final String FACE = "singer 2, of 2, change 3, answerers 1, strike 1, go 1, now 1, "
        + "ahead 3, sings 1, together 2, rest 1, when 2, beginFor 2, answerFor 2, kindFor 2, ageFor 2, "
        + "hush 1, longest 1, fits 2, date 2, kinds 2, spring 1, odds 2, seed 1, feed 2, wipe 0, text 0, "
        + "hold 2, as 2, sheet 3, write 3, copy 5, load 1, judge 1, image 0, undo 0, tear 0, count 1, "
        + "status 1";

    public static void main(String[] args) throws IOException {
        face();
        List<Class<?>> classes = new ArrayList<>(Arrays.asList(LavenderParts.class.getDeclaredClasses()));
        for (Class<?> inside : classes) {
            due.is(inside + " is static", Modifier.isStatic(inside.getModifiers()) ? 1 : 0, 1);
            due.is(inside + " is public", Modifier.isPublic(inside.getModifiers()) ? 1 : 0, 0);
        }
        classes.add(LavenderParts.class);
        due.is("too many classes", classes.size() > 12 ? 1 : 0, 0);
        classes.forEach(LanguageTest::members);
        words(Files.readString(Path.of("src/main/java/LavenderParts.java")));
        due.end();
    }

    private static void face() {
        Set<String> names = new TreeSet<>();
        Set<String> hidden = new TreeSet<>();
        for (Method m : LavenderParts.class.getDeclaredMethods()) {
            if (Modifier.isPrivate(m.getModifiers())) {
                hidden.add(m.getName());
                continue;
            }
            names.add(m.getName() + " " + m.getParameterCount());
            due.is(m + " is public", Modifier.isPublic(m.getModifiers()) ? 1 : 0, 1);
            due.is(m + " is static", Modifier.isStatic(m.getModifiers()) ? 1 : 0, 0);
            Class<?> type = m.getName().equals("odds") ? long.class : int.class;
            due.is(m + " answers an int, or odds a long", m.getReturnType() == type ? 1 : 0, 1);
        }
        Set<String> want = new TreeSet<>(Arrays.asList(FACE.split(", ")));
        due.is("face " + names, names.equals(want) ? 1 : 0, 1);
        for (Class<?> inside : LavenderParts.class.getDeclaredClasses()) {
            for (Method m : inside.getDeclaredMethods()) {
                hidden.add(m.getName());
            }
        }
        names.forEach(name -> due.is("hidden " + name, hidden.contains(name.split(" ")[0]) ? 1 : 0, 0));
        Constructor<?>[] constructors = LavenderParts.class.getDeclaredConstructors();
        due.is("constructors", constructors.length, 1);
        due.is("its arguments", constructors[0].getParameterCount(), 0);
        due.is("final", Modifier.isFinal(LavenderParts.class.getModifiers()) ? 1 : 0, 1);
        for (Field f : LavenderParts.class.getDeclaredFields()) {
            due.is(f + " is private", Modifier.isPrivate(f.getModifiers()) ? 1 : 0, 1);
        }
    }

    private static void members(Class<?> type) {
        int fields = 0;
        for (Field f : type.getDeclaredFields()) {
            boolean isStatic = Modifier.isStatic(f.getModifiers());
            fields += isStatic ? 0 : 1;
            due.is(f + " may change", isStatic && !Modifier.isFinal(f.getModifiers()) ? 1 : 0, 0);
        }
        due.is(type + " has too many fields", fields > 20 ? 1 : 0, 0);
        for (Method m : type.getDeclaredMethods()) {
            due.is(m + " has too many parameters", m.getParameterCount() > 7 ? 1 : 0, 0);
        }
    }

    private static void words(String source) {
        String code = source.replaceAll("(?s)/\\*.*?\\*/", "").replaceAll("//[^\n]*", "");
        for (String word : List.of("throw", "try", "catch", "synchronized", "assert", "import", "package",
            "->", "::", "Exact", "protected", "float", "double")) {
            String pattern = Character.isLetter(word.charAt(0)) ? "\\b" + word + "\\b" : word;
            due.is("the word " + word, Pattern.compile(pattern).matcher(code).find() ? 1 : 0, 0);
        }
        // A row is made once: no call of the face makes anything.
        Matcher made = Pattern.compile("(?m)^.*\\bnew\\b.*$").matcher(code);
        while (made.find()) {
            String line = made.group().trim();
            boolean isOnce = line.contains("final ") || line.matches("(sheets|row)\\[i\\] = new \\w+\\(\\);");
            due.is("made in a call: " + line, isOnce ? 1 : 0, 1);
        }
        methodLengths(source.split("\n"));
    }

    private static void methodLengths(String[] lines) {
        Pattern header = Pattern.compile("( {4}| {8})(?! |if|for|while|switch|return|\\}).*\\w\\(.*[({]");
        for (int i = 0; i < lines.length; i++) {
            Matcher m = header.matcher(lines[i]);
            if (m.matches()) {
                int end = i;
                while (end < lines.length && !lines[end].equals(m.group(1) + "}")) {
                    end++;
                }
                due.is(lines[i] + " is too long", end - i > 60 ? 1 : 0, 0);
            }
        }
    }
}
