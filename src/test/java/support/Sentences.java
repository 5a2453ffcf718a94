import java.lang.reflect.Method;
import java.nio.file.Files;
import java.nio.file.Path;
import java.util.ArrayList;
import java.util.Arrays;
import java.util.LinkedHashMap;
import java.util.List;
import java.util.Map;
import java.util.NoSuchElementException;
import java.util.concurrent.Callable;

/**
 * Goes through the document sentence by sentence, in its order. Each sentence that a test says must stand in the
 * document behind the one said before, must have checks of its own, and none may be left out.
 */
final class Sentences {
    static final Class<IndexOutOfBoundsException> INDEX = IndexOutOfBoundsException.class;
    static final Class<IllegalArgumentException> ARGUMENT = IllegalArgumentException.class;
    static final Class<NoSuchElementException> ELEMENT = NoSuchElementException.class;
    static final Class<UnsupportedOperationException> UNSUPPORTED = UnsupportedOperationException.class;
    static final Class<IllegalStateException> STATE = IllegalStateException.class;
    static final Class<ArithmeticException> ARITHMETIC = ArithmeticException.class;

    private static final Path DOCUMENT = Path.of("../shared/DOC.md");
    private final Checks checks = new Checks();
    /** Paragraphs of the Terms and the promises, by their first words. */
    private final Map<String, String> sections = new LinkedHashMap<>();
    private final List<String> titles = new ArrayList<>();
    private final boolean isThere = Files.isReadable(DOCUMENT);
    private String title = "";
    private String rest = "";
    private String sentence = "";
    private int checksOfSentence = 1;

    Sentences() {
        try {
            if (isThere) {
                read(Files.readString(DOCUMENT));
            } else {
                System.out.println("no " + DOCUMENT + ": the sentences are tested, but not looked up");
            }
        } catch (java.io.IOException e) {
            throw new IllegalStateException(DOCUMENT + " can't be read", e);
        }
    }

    private void read(String document) {
        for (String part : document.split("\n## ")) {
            if (part.startsWith("Terms")) {
                for (String paragraph : part.substring(part.indexOf('\n')).trim().split("\n\n")) {
                    keep(paragraph.substring(0, paragraph.indexOf(' ')), paragraph);
                }
            } else if (part.startsWith("Promise ")) {
                keep(part.substring(0, part.indexOf(':')), part.substring(part.indexOf('\n')));
            }
        }
    }

    private void keep(String name, String text) {
        titles.add(name);
        sections.put(name, text.replaceAll("\\s+", " ").trim());
    }

    /** Begins a paragraph of the Terms, told by its first word, or a promise; it is the next one in the document. */
    void section(String name) {
        endSection();
        if (isThere) {
            int at = titles.indexOf(name);
            checks.yes(name + " is in the document", at >= 0);
            checks.yes(name + " is behind " + title, title.isEmpty() || at > 0 && titles.get(at - 1).equals(title));
            rest = sections.getOrDefault(name, "");
        }
        title = name;
    }

    private void endSection() {
        endSentence();
        checks.is("what no test says of " + title, rest, "");
        rest = "";
    }

    private void endSentence() {
        checks.yes(title + ": " + sentence + " has checks", checksOfSentence > 0);
        checksOfSentence = 1;
    }

    /** Begins a promise, whose call is declared by the class as the document tells it. */
    void promise(int number) throws Exception {
        section("Promise " + number);
        if (isThere) {
            int end = rest.indexOf("`: ");
            String face = rest.substring(1, end);
            rest = rest.substring(end + 3);
            sentence = face;
            is("is declared", declared(face), face);
        }
    }

    /** How the class declares the call of this name, with the names that the document gives to its parameters. */
    private static String declared(String face) {
        String head = face.substring(0, face.indexOf('('));
        String name = head.substring(head.indexOf(' ') + 1);
        if (name.equals("Unwindlens")) {
            return Arrays.stream(Unwindlens.class.getConstructors()).map(made -> "Unwindlens()").toList().get(0);
        }
        String[] words = face.substring(face.indexOf('(') + 1, face.indexOf(')')).split(" |, ");
        for (Method method : Unwindlens.class.getMethods()) {
            if (method.getName().equals(name)) {
                return textOf(method, words);
            }
        }
        return "nothing";
    }

    private static String textOf(Method method, String[] words) {
        StringBuilder text = new StringBuilder(method.getReturnType().getSimpleName());
        text.append(' ').append(method.getName()).append('(');
        Class<?>[] kinds = method.getParameterTypes();
        for (int i = 0; i < kinds.length; i++) {
            String word = 2 * i + 1 < words.length ? words[2 * i + 1] : "?";
            text.append(i > 0 ? ", " : "").append(kinds[i].getSimpleName()).append(' ').append(word);
        }
        text.append(')');
        Class<?>[] thrown = method.getExceptionTypes();
        for (int i = 0; i < thrown.length; i++) {
            text.append(i > 0 ? ", " : " throws ").append(thrown[i].getSimpleName());
        }
        return text.toString();
    }

    /** The next sentence, or part of one; the checks behind are its test. */
    void says(String text) {
        endSentence();
        sentence = text;
        checksOfSentence = 0;
        if (isThere && rest.startsWith(text)) {
            rest = rest.substring(text.length()).trim();
        } else if (isThere) {
            checks.is(title + " goes on", rest.substring(0, Math.min(text.length(), rest.length())), text);
        }
    }

    private String about(String what) {
        checksOfSentence++;
        return title + ": " + sentence + " -- " + what;
    }

    void is(String what, long got, long due) {
        checks.is(about(what), got, due);
    }

    void is(String what, double got, double due) {
        checks.is(about(what), got, due);
    }

    void is(String what, String got, String due) {
        checks.is(about(what), got, due);
    }

    void yes(String what, boolean got) {
        checks.yes(about(what), got);
    }

    void no(String what, boolean got) {
        checks.yes(about(what), !got);
    }

    void fails(String what, Class<? extends RuntimeException> due, Unwindlens lens, Callable<?> call) {
        checks.fails(about(what), due, lens, call);
    }

    /** Ends the program with exit code 1 if something failed; the last section told is named. */
    void end(String name, String last) {
        endSection();
        checks.is("the last section", title, last);
        checks.end(name);
    }
}
