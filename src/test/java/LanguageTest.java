import java.lang.reflect.Constructor;
import java.lang.reflect.Field;
import java.lang.reflect.Method;
import java.lang.reflect.Modifier;
import java.nio.file.Files;
import java.nio.file.Path;
import java.util.Arrays;
import java.util.Set;
import java.util.TreeSet;
import java.util.regex.Matcher;
import java.util.regex.Pattern;
import java.util.stream.Collectors;

/** The rules of LANGUAGE.md that can be looked up in the source or in the class; run in the project's root. */
public final class LanguageTest {
    private static final Set<String> METHODS = Set.of("officer", "cousin", "feed", "end", "text", "fault", "by",
            "wrong", "away", "sideways", "day", "played", "years", "undo", "of", "ofApology", "is", "book");
    private static final Set<String> LATER_METHODS = Set.of("foretold", "pardoned", "meets", "steps", "route",
            "pile", "piles", "ask", "orders", "first", "weigh", "apart", "middle", "longest", "parts", "deputies",
            "ranked", "owes", "play", "added", "whose", "stuck", "eldest", "sorry", "befell", "image", "back",
            "about");

    public static void main(String[] args) throws Exception {
        String source = Files.readString(Path.of("src/main/java/ApologyUp.java"));
        String code = source.replaceAll("(?s)/\\*.*?\\*/", " ").replaceAll("//[^\n]*", " ")
                .replaceAll("\"[^\"\n]*\"", "\"\"").replaceAll("'\\\\?.'", "' '");
        for (String word : new String[] {"throw", "throws", "try", "catch", "synchronized", "assert", "package",
            "protected", "double", "float", "import static", "->", "::", "Exact", "hashCode", "toString", "ordinal"}) {
            Pattern p = Pattern.compile(Character.isLetter(word.charAt(0)) ? "\\b" + word + "\\b" : Pattern.quote(word));
            Checks.due("the source has " + word, p.matcher(code).find(), false);
        }
        Checks.due("imports but java.util.Arrays", Pattern.compile("import (?!java\\.util\\.Arrays;)").matcher(code).find(),
                false);
        Checks.due("signs above 126", source.chars().anyMatch(c -> c > 126), false);
        Matcher library = Pattern.compile("\\b(Math|Arrays|System|Integer|Long)\\.(\\w+)").matcher(code);
        while (library.find()) {
            Checks.due(library.group(), Set.of("min", "max", "abs", "fill", "arraycopy").contains(library.group(2)), true);
        }
        face();
        Set<Class<?>> inside = Set.of(ApologyUp.class.getDeclaredClasses());
        Checks.due("more than twelve classes", inside.size() + 1 > 12, false);
        for (Class<?> c : inside) {
            Checks.due(c + " is static", Modifier.isStatic(c.getModifiers()), true);
            Checks.due(c + " isn't public", Modifier.isPublic(c.getModifiers()) || Modifier.isProtected(c.getModifiers()),
                    false);
            members(c);
            privateNames(c);
        }
        members(ApologyUp.class);
        methodLengths(code);
        loopEnds(code);
        Checks.finish("LanguageTest");
    }

    private static void face() {
        Class<?> c = ApologyUp.class;
        Checks.due("public final", (c.getModifiers() & Modifier.PUBLIC) != 0 && (c.getModifiers() & Modifier.FINAL) != 0,
                true);
        Set<String> due = new TreeSet<>(METHODS);
        due.addAll(LATER_METHODS);
        Set<String> got = Arrays.stream(c.getDeclaredMethods()).filter(m -> Modifier.isPublic(m.getModifiers()))
                .map(Method::getName).collect(Collectors.toCollection(TreeSet::new));
        Checks.due("public methods " + got, got.equals(due), true);
        for (Method m : c.getDeclaredMethods()) {
            Checks.due(m + " is public or private", Modifier.isPublic(m.getModifiers()) || Modifier.isPrivate(m.getModifiers()),
                    true);
            Checks.due(m + " is private and has a public one's name",
                    Modifier.isPrivate(m.getModifiers()) && due.contains(m.getName()), false);
        }
        for (Field f : c.getDeclaredFields()) {
            Checks.due(f + " is private", Modifier.isPrivate(f.getModifiers()) || f.getName().equals("NONE"), true);
        }
        for (Constructor<?> k : c.getDeclaredConstructors()) {
            Checks.due(k + " is the public one", Modifier.isPublic(k.getModifiers()) && k.getParameterCount() == 0, true);
        }
    }

    private static void members(Class<?> c) {
        int fields = 0;
        for (Field f : c.getDeclaredFields()) {
            if (Modifier.isStatic(f.getModifiers())) {
                Checks.due(f + " is final", Modifier.isFinal(f.getModifiers()), true);
            } else {
                fields++;
            }
        }
        Checks.due(c + " has more than twenty fields", fields > 20, false);
        for (Method m : c.getDeclaredMethods()) {
            Checks.due(m + " has more than seven parameters", m.getParameterCount() > 7, false);
        }
    }

    /** Rule 1 is kept in the classes inside, too: none of their methods has a name of the face. */
    private static void privateNames(Class<?> c) {
        for (Method m : c.getDeclaredMethods()) {
            Checks.due(m + " has a public one's name", METHODS.contains(m.getName()) || LATER_METHODS.contains(m.getName()),
                    false);
        }
    }

    /** Rule 9: a for counts on by one at least as its own line tells, and a while by its only line. */
    private static void loopEnds(String code) {
        Matcher each = Pattern.compile("\\bfor \\(int (\\w+) = [^;]*; [^;]*\\b\\1\\b[^;]*; (.*)\\) \\{").matcher(code);
        int told = 0;
        while (each.find()) {
            told++;
            String by = each.group(1);
            Checks.due("a loop's end can't be seen: " + each.group(),
                    each.group(2).matches(by + "(\\+\\+|--| -= \\d+| = Math\\.max\\(\\w+, " + by + " \\+ 1\\))"), true);
        }
        Checks.due("loops whose end was looked at", told, Pattern.compile("\\bfor\\b").matcher(code).results().count());
        Matcher other = Pattern.compile("\\b(while|do)\\b[^\\n]*\\n[^\\n]*").matcher(code);
        while (other.find()) {
            Checks.due("a loop's end can't be seen: " + other.group(),
                    other.group().matches("while \\((\\w+) < \\w+ && [^\\n]*\\n *\\1\\+\\+;"), true);
        }
    }

    /** A method begins at four or eight blanks and ends with the brace below it. */
    private static void methodLengths(String code) {
        Matcher m = Pattern.compile("(?m)^( {4}| {8})(?! )[^\\n;=]*\\) \\{\\n(?s:.*?)\\n\\1\\}").matcher(code);
        while (m.find()) {
            long lines = m.group().lines().count();
            Checks.due("a method of " + lines + " lines: " + m.group().lines().findFirst().orElse(""), lines > 60, false);
        }
    }
}
