import java.lang.reflect.Constructor;
import java.lang.reflect.Method;
import java.lang.reflect.Modifier;
import java.nio.file.Files;
import java.nio.file.Path;
import java.util.ArrayList;
import java.util.Arrays;
import java.util.HashMap;
import java.util.List;
import java.util.Map;
import java.util.TreeSet;
import java.util.stream.Collectors;

/**
 * The parts of the document that are no Terms and no promises: what it is, its public face, how many calls an object
 * takes, and what is not promised.
 */
public final class DocumentTest {
    private static final Path DOCUMENT = Path.of("../shared/DOC.md");
    private static final Checks CHECKS = new Checks();

    private DocumentTest() {
    }

    public static void main(String[] args) throws Exception {
        if (Files.isReadable(DOCUMENT)) {
            String document = Files.readString(DOCUMENT);
            face(part(document, "The public face"));
            promises(document);
        } else {
            System.out.println("no " + DOCUMENT + ": the face is not looked up");
        }
        targetWithLines();
        framesAndNames();
        stops();
        runsAndChanges();
        lastCall();
        objectsApart();
        notPromised();
        CHECKS.end("DocumentTest");
    }

    private static String part(String document, String title) {
        for (String part : document.split("\n## ")) {
            if (part.startsWith(title)) {
                return part;
            }
        }
        CHECKS.yes("a part " + title, false);
        return "";
    }

    /** Each line of the face is declared so, and the class has nothing else that is public. */
    private static void face(String part) {
        List<String> due = new ArrayList<>();
        for (String line : part.split("\n")) {
            if (line.startsWith("    public ")) {
                due.add(line.trim());
            }
        }
        CHECKS.yes("public final", part.contains("public final class Unwindlens {")
                && Unwindlens.class.getModifiers() == (Modifier.PUBLIC | Modifier.FINAL));
        CHECKS.is("superclass", Unwindlens.class.getSuperclass().getName(), "java.lang.Object");
        CHECKS.is("interfaces", Unwindlens.class.getInterfaces().length, 0);
        CHECKS.is("public fields", Unwindlens.class.getFields().length, 0);
        CHECKS.is("public classes inside", Unwindlens.class.getClasses().length, 0);
        CHECKS.is("package", Unwindlens.class.getPackageName(), "");
        CHECKS.is("lines of the face", due.size(), 44);
        CHECKS.is("the face", String.join("\n", new TreeSet<>(declared())), due.stream().map(DocumentTest::withoutNames)
                .sorted().collect(Collectors.joining("\n")));
    }

    private static List<String> declared() {
        List<String> declared = new ArrayList<>();
        for (Constructor<?> made : Unwindlens.class.getConstructors()) {
            declared.add("public " + made.getName() + kinds(made.getParameterTypes()) + thrown(made.getExceptionTypes()));
        }
        for (Method method : Unwindlens.class.getDeclaredMethods()) {
            if (Modifier.isPublic(method.getModifiers())) {
                CHECKS.is("modifiers of " + method.getName(), method.getModifiers(), Modifier.PUBLIC);
                declared.add("public " + method.getReturnType().getSimpleName() + " " + method.getName()
                        + kinds(method.getParameterTypes()) + thrown(method.getExceptionTypes()));
            }
        }
        return declared;
    }

    private static String kinds(Class<?>[] kinds) {
        return Arrays.stream(kinds).map(Class::getSimpleName).collect(Collectors.joining(", ", "(", ")"));
    }

    private static String thrown(Class<?>[] kinds) {
        String all = Arrays.stream(kinds).map(Class::getSimpleName).collect(Collectors.joining(", "));
        return all.isEmpty() ? ";" : " throws " + all + ";";
    }

    /** The names of parameters are not kept by the compiler. */
    private static String withoutNames(String line) {
        int open = line.indexOf('(');
        int close = line.indexOf(')');
        String kinds = Arrays.stream(line.substring(open + 1, close).split(", ")).map(one -> one.split(" ")[0])
                .collect(Collectors.joining(", "));
        return line.substring(0, open + 1) + kinds + line.substring(close);
    }

    /** The promises tell the calls of the face once more, in its order. */
    private static void promises(String document) {
        List<String> told = new ArrayList<>();
        for (String part : document.split("\n## ")) {
            if (part.startsWith("Promise ")) {
                String call = part.substring(part.indexOf("\n\n`") + 3, part.indexOf("`: "));
                told.add("    public " + call + ";");
            }
        }
        CHECKS.is("promises", told.size(), 44);
        String face = part(document, "The public face");
        CHECKS.yes("the promises are the face", face.contains(String.join("\n", told)));
    }

    /** "A debugger with its target: code, threads and a stack, lines". */
    private static void targetWithLines() {
        Unwindlens x = Sample.base();
        CHECKS.is("a second thread", x.thread(1), 1);
        CHECKS.is("no line before", x.line(12, 21), -1);
        CHECKS.is("a breakpoint at the line", x.stopLine(21), 0);
        CHECKS.is("both threads go in turn", x.run(500), 24);
        CHECKS.is("till one is at the line", x.which(), 0);
        CHECKS.is("the thread there", x.frame(0, 0, 'l'), 21);
        CHECKS.is("no words left", x.meanStack(), 0.0);
        CHECKS.is("what was worked out", x.register(0, 0), 7);
    }

    /** "scopes in which names hide one another, values by places ..., frames ..., calls that were inlined". */
    private static void framesAndNames() {
        Unwindlens x = Sample.named();
        int inner = x.scope(4, 6);
        x.where(x.variable(inner, 'x', 'c', 1), 4, 5, 'r', 1);
        x.run(4);
        CHECKS.is("the outer one", Sample.shown(x, 0, 0, 'x'), "5");
        x.run(2);
        CHECKS.is("is hidden", Sample.shown(x, 0, 0, 'x'), "2");
        x.run(1);
        CHECKS.is("the register 2", x.register(0, 2), 5);
        x.run(1);
        CHECKS.is("gone at place 6, as the outer one stays hidden", x.see(0, 0, 'x'), 'g');
        x.run(1);
        CHECKS.is("no longer hidden", Sample.shown(x, 0, 0, 'x'), "7");
        CHECKS.is("unwound by rules", x.frames(0), 2);
        CHECKS.is("the caller", x.frame(0, 1, 'p'), 11);
        CHECKS.is("inlined", x.inlined(7, 7, 1, 30), 0);
        CHECKS.is("shown as a frame", x.frames(0), 3);
        CHECKS.is("of its function", x.frame(0, 0, 'f'), 1);
        CHECKS.is("with the line of the call behind it", x.frame(0, 1, 'l'), 30);
    }

    /** "breakpoints by place, line and function, with conditions, watches that end with their frames". */
    private static void stops() {
        Unwindlens x = Sample.named();
        x.line(12, 9);
        CHECKS.is("by place", x.stop(5), 0);
        CHECKS.is("by line", x.stopLine(9), 1);
        CHECKS.is("by function", x.stopIn(0), 2);
        x.when(0, 'x', '>', 5);
        CHECKS.is("till it is in the function", x.run(500), 3);
        CHECKS.is("by it", x.which(), 2);
        x.run(3);
        CHECKS.is("a watch", x.watchName(0, 0, 'x'), 0);
        x.pass(2, -1);
        CHECKS.is("the condition does not hold; till x changes", x.run(500), 3);
        CHECKS.is("by a watch", x.reason(), 'w');
        CHECKS.is("till the frame of x ends", x.run(500), 2);
        CHECKS.is("by its end", x.reason(), 'e');
        CHECKS.is("till the line", x.run(500), 1);
        CHECKS.is("by the line", x.which(), 1);
        CHECKS.is("no hit without the condition", x.hits(0), 0);
    }

    /** "steps by lines, functions that are called by hand and undone when they fail, running back, and changes". */
    private static void runsAndChanges() {
        Unwindlens x = Sample.named();
        x.line(11, 20);
        x.line(12, 21);
        CHECKS.is("a step to the line", x.stepLine(0, 'i'), 1);
        CHECKS.is("a step over the call", x.stepLine(0, 'o'), 11);
        CHECKS.is("there", x.frame(0, 0, 'p'), 12);
        CHECKS.is("running back", x.back(11), 1);
        CHECKS.is("to the place", x.frame(0, 0, 'p'), 11);
        CHECKS.fails("a function that fails is undone", UnsupportedOperationException.class, x, () -> x.call(0, 1, 3));
        CHECKS.is("a function called by hand", x.call(0, 0, 40), 42);
        CHECKS.is("the register as it was", x.register(0, 0), 5);
        CHECKS.is("the time goes on", x.time(), 11);
        CHECKS.is("a change by hand", x.patch(2, 'c', 1, 10), 'c');
        CHECKS.is("of the target", x.call(0, 0, 40), 50);
    }

    /** The 512th call answers as any other. */
    private static void lastCall() {
        Unwindlens x = Sample.thread("c 0 1; c 1 1; + 2 0; p 2 7; j 1 2");
        for (int call = 8; call <= 510; call++) {
            CHECKS.is("call " + call, x.run(3), 3);
        }
        CHECKS.is("call 511", x.cell(7), 502);
        CHECKS.is("call 512", x.time(), 1509);
    }

    /** What is asked of one object is nothing to another one. */
    private static void objectsApart() {
        Unwindlens alone = Sample.named();
        alone.run(6);
        String due = Digest.of(alone);
        Unwindlens x = Sample.named();
        Unwindlens y = new Unwindlens();
        Sample.code(y, "e 0 4; c 0 9; s 0 0; p 0 3; k 0 0");
        y.function(0, 4);
        y.thread(0);
        y.thread(0);
        y.hold(0, true);
        y.stop(3);
        y.watch(3);
        for (int step = 0; step < 6; step++) {
            x.run(1);
            y.run(7);
            y.jump(1, 0);
        }
        CHECKS.is("the object between whose calls another one was called", Digest.of(x), due);
    }

    /** What is free must still not end a program, or change anything. */
    private static void notPromised() {
        Unwindlens x = Sample.named();
        x.run(5);
        String before = Digest.of(x);
        CHECKS.yes("a text", x.toString() != null);
        CHECKS.yes("itself", x.equals(x) && x.hashCode() == x.hashCode());
        Map<Unwindlens, Integer> keyed = new HashMap<>();
        keyed.put(x, 1);
        CHECKS.is("as a key", keyed.get(x), 1);
        CHECKS.is("nothing changes", Digest.of(x), before);
    }
}
