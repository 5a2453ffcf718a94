import java.lang.reflect.Field;
import java.lang.reflect.Member;
import java.lang.reflect.Modifier;
import java.nio.file.Files;
import java.nio.file.Path;
import java.util.HashSet;
import java.util.List;
import java.util.Set;
import java.util.TreeSet;
import java.util.regex.Matcher;
import java.util.regex.Pattern;

/** The rules of LANGUAGE.md that the class and a look at its text can show. */
public final class LanguageTest {
    private static final Checks CHECKS = new Checks();

    private LanguageTest() {
    }

    public static void main(String[] args) throws Exception {
        String text = Files.readString(Path.of("src/main/java/Unwindlens.java"));
        face();
        inside();
        words(text);
        methods(text);
        CHECKS.end("LanguageTest");
    }

    private static void face() {
        Set<String> open = new TreeSet<>();
        for (Member member : Unwindlens.class.getDeclaredMethods()) {
            if (!Modifier.isPrivate(member.getModifiers())) {
                CHECKS.yes(member.getName() + " is public", Modifier.isPublic(member.getModifiers()));
                CHECKS.yes(member.getName() + " stands once", open.add(member.getName()));
            }
        }
        CHECKS.is("methods of the face", open.size(), 43);
        CHECKS.is("constructors", Unwindlens.class.getDeclaredConstructors().length, 1);
        for (Field field : Unwindlens.class.getDeclaredFields()) {
            CHECKS.yes(field.getName() + " is private", Modifier.isPrivate(field.getModifiers()));
        }
        for (Class<?> kind : allClasses()) {
            for (Member member : kind.getDeclaredMethods()) {
                CHECKS.yes(kind + "." + member.getName() + " bears no name of the face",
                        kind == Unwindlens.class && Modifier.isPublic(member.getModifiers())
                                || !open.contains(member.getName()));
            }
        }
    }

    private static Set<Class<?>> allClasses() {
        Set<Class<?>> all = new HashSet<>(List.of(Unwindlens.class.getDeclaredClasses()));
        all.add(Unwindlens.class);
        return all;
    }

    private static void inside() {
        CHECKS.yes("at most twelve classes", allClasses().size() <= 12);
        for (Class<?> kind : allClasses()) {
            int own = 0;
            for (Field field : kind.getDeclaredFields()) {
                boolean constant = Modifier.isStatic(field.getModifiers());
                CHECKS.yes(field + " is final", !constant || Modifier.isFinal(field.getModifiers()));
                own += constant ? 0 : 1;
            }
            CHECKS.yes(kind + " has at most twenty fields", own <= 20);
            CHECKS.yes(kind + " is static or the face", kind == Unwindlens.class || Modifier.isStatic(kind.getModifiers()));
        }
    }

    private static void words(String text) {
        String[] banned = {"->", "::", "\\btry\\b", "\\bcatch\\b", "\\bfinally\\b", "\\bassert\\b", "\\bsynchronized\\b",
            "\\bvar\\b", "\\bnull\\b", "\\.getMessage", "Exact\\(", "String\\.", "Math\\.(?!max|min|abs)", "\\bprotected\\b",
            "while \\(true\\)", "\\bpackage\\b", "@", "\" \\+", "\\+ \""};
        for (String word : banned) {
            Matcher found = Pattern.compile(word).matcher(text);
            CHECKS.yes("no " + word, !found.find());
        }
        CHECKS.is("imports", Pattern.compile("^import ", Pattern.MULTILINE).matcher(text).results().count(), 1);
        CHECKS.yes("signs 1 to 127", text.chars().allMatch(sign -> sign > 0 && sign < 128));
        Matcher thrown = Pattern.compile("\\bthrow (?!new (IllegalStateException|IllegalArgumentException"
                + "|IndexOutOfBoundsException|ArithmeticException|UnsupportedOperationException"
                + "|NoSuchElementException)\\(\"[^\"]*\"\\);)").matcher(text);
        CHECKS.yes("each throw throws what may be thrown", !thrown.find());
    }

    /** A method begins with a line that ends with a brace at the depth of members, and ends with one at that depth. */
    private static void methods(String text) {
        int begun = 0;
        int number = 0;
        for (String line : text.split("\n")) {
            number++;
            CHECKS.yes("line " + number + " is not longer than 120 signs", line.length() <= 120);
            if (line.matches(" {4}( {4})?[\\w<\\[].*\\(.*") && !line.trim().startsWith("return")) {
                begun = number;
                CHECKS.yes("at most seven parameters at line " + number, line.split(",").length <= 7);
            }
            if (line.matches(" {4}( {4})?}")) {
                CHECKS.yes("the method at line " + begun + " is short", begun == 0 || number - begun <= 60);
                begun = 0;
            }
        }
    }
}
