import java.lang.reflect.InvocationTargetException;
import java.lang.reflect.Method;
import java.util.ArrayList;
import java.util.Arrays;
import java.util.List;
import java.util.Map;
import java.util.Random;
import java.util.TreeMap;

/**
 * Long runs of calls with arguments in and out of range: each answer must be that of the Model, each exception
 * one that the face names and that the class throws itself, and a call that throws must change nothing, which a
 * twin shows that is spared those calls.
 */
public final class RandomRunsTest {
    private static final int RUNS = 4000;
    private static final int CALLS = 512;
    private static final String KINDS = "nccmm+-*llgsspjkexrh";
    /** Kinds that rarely end a thread at once. */
    private static final String CALM = "nccm+-*llggsssppkk";
    private static final Map<String, Method> FACE = methodsOf(Unwindlens.class);
    private static final Map<String, Method> MODEL = methodsOf(Model.class);

    private static final List<Integer> RUNS_OF = List.of(1, 1, 2, 2, 3, 3, 4, 5, 6, 8, 11, 20, 30, 100, 500, 0, 501, -1);

    private final Checks checks;
    private final Random random;
    private final int seed;
    private final Unwindlens lens = new Unwindlens();
    private final Unwindlens twin = new Unwindlens();
    private final Model model = new Model();
    private final Map<String, Integer> counts = new TreeMap<>();
    private final List<String> told = new ArrayList<>();
    private final Map<String, Integer> seen;
    /** How many slots the function that is built has. */
    private int slots = 4;
    private boolean wrong;
    private int calls;

    private RandomRunsTest(Checks checks, int seed, Map<String, Integer> seen) {
        this.checks = checks;
        this.seed = seed;
        this.seen = seen;
        random = new Random(seed);
    }

    public static void main(String[] args) {
        Checks checks = new Checks();
        Map<String, Integer> seen = new TreeMap<>();
        int runs = args.length > 0 ? Integer.parseInt(args[0]) : RUNS;
        int first = args.length > 1 ? Integer.parseInt(args[1]) : 0;
        for (int run = first; run < first + runs; run++) {
            new RandomRunsTest(checks, run, seen).go();
        }
        if (args.length > 2) {
            System.out.println(seen);
        }
        for (String name : FACE.keySet()) {
            checks.yes("some " + name + " is made and answers", seen.getOrDefault(name, 0) > 0);
            for (Class<?> kind : FACE.get(name).getExceptionTypes()) {
                String both = name + " " + kind.getSimpleName();
                checks.yes("some " + both, seen.getOrDefault(both, 0) > 0);
            }
        }
        for (String letter : "b w e d n -".split(" ")) {
            checks.yes("some reason " + letter, seen.getOrDefault("reason " + letter, 0) > 0);
        }
        for (String letter : "o u p f".split(" ")) {
            checks.yes("some fault " + letter, seen.getOrDefault("fault " + letter, 0) > 0);
        }
        checks.end("RandomRunsTest");
    }

    private static Map<String, Method> methodsOf(Class<?> kind) {
        Map<String, Method> methods = new TreeMap<>();
        for (Method method : kind.getDeclaredMethods()) {
            if (java.lang.reflect.Modifier.isPublic(method.getModifiers())) {
                methods.put(method.getName(), method);
            }
        }
        return methods;
    }

    private void go() {
        if (random.nextInt(10) > 0) {
            build();
        }
        List<String> names = new ArrayList<>(FACE.keySet());
        List<String> often = List.of("run", "stepLine", "back", "backTo", "when", "pass", "hold", "show", "see",
                "frame", "frames", "value", "reason", "which", "set", "call", "watchName", "isTrue", "checksum",
                "run", "stepLine", "backTo", "hits", "time");
        int share = pick(List.of(1, 5, 5, 5));
        while (calls < CALLS && !wrong) {
            make(random.nextInt(share) == 0 ? pick(names) : pick(often));
        }
    }

    private void build() {
        int functions = 1 + random.nextInt(5);
        for (int f = 0; f < functions; f++) {
            buildFunction();
        }
        if (random.nextBoolean()) {
            buildLoop();
        }
        int more = random.nextInt(60);
        for (int i = 0; i < more; i++) {
            make(pick(List.of("line", "line", "rule", "inlined", "scope", "variable", "variable", "where", "where",
                    "where")));
        }
        for (int i = random.nextInt(3); i >= 0; i--) {
            make("thread");
        }
        for (int i = random.nextInt(8); i > 0; i--) {
            make(pick(List.of("stop", "stopLine", "stopIn", "when", "pass", "watch", "watchName", "run")));
        }
    }

    /** Most functions make a frame, do something, and take it off again. */
    private void buildFunction() {
        int first = count("code");
        boolean plain = random.nextInt(5) > 0;
        slots = plain ? 1 + random.nextInt(4) : 4;
        if (plain) {
            tell("code", 'e', 0, slots);
        }
        int length = random.nextInt(40) == 0 ? 58 : random.nextInt(8);
        for (int i = 0; i < length; i++) {
            tell("code", instruction(null, random.nextInt(12) == 0 ? of(KINDS) : of(CALM)));
        }
        if (random.nextInt(6) == 0) {
            tell("code", 'c', 3, 1);
            tell("code", 'j', 3, random.nextInt(4) == 0 ? first : first + 1);
        }
        if (plain) {
            tell("code", 'x', 0, 0);
        }
        tell("code", random.nextInt(6) > 0 ? 'r' : 'h', 0, 0);
        int last = count("code") - 1;
        tell("function", first, last);
        if (random.nextInt(4) > 0) {
            tell("rule", first + 1, 'i');
            tell("rule", last, 'o');
        }
        if (random.nextInt(4) > 0) {
            tell("scope", first, last);
            for (int v = random.nextInt(3); v >= 0; v--) {
                tell("variable", count("scope") - 1, (char) ('a' + random.nextInt(3)), of("ibc"), 1 + random.nextInt(2));
                tell("where", count("variable") - 1, first, last, of("rsssg#"), random.nextInt(4));
            }
        }
    }

    /** A function that calls others without an end. */
    private void buildLoop() {
        int first = count("code");
        slots = 1 + random.nextInt(3);
        tell("code", 'e', 0, slots);
        for (int i = 1 + random.nextInt(4); i > 0; i--) {
            tell("code", instruction(null, of("ncm+*psl")));
            tell("code", 'k', 0, random.nextInt(count("function") + 1));
        }
        tell("code", 'c', 3, 1);
        tell("code", 'j', 3, first + 1);
        tell("function", first, count("code") - 1);
        tell("rule", first + 1, 'i');
        for (int i = random.nextInt(3); i >= 0; i--) {
            tell("thread", count("function") - 1);
        }
    }

    private <T> T pick(List<T> all) {
        return all.get(random.nextInt(all.size()));
    }

    private int count(String what) {
        return counts.getOrDefault(what, 0);
    }

    /** Mostly a number below the count, at times one that is out of range. */
    private int number(int count) {
        if (random.nextInt(25) == 0) {
            return pick(List.of(-1, count, count + 1, Integer.MIN_VALUE, Integer.MAX_VALUE));
        }
        return count == 0 ? 0 : random.nextInt(count);
    }

    private int word() {
        return switch (random.nextInt(6)) {
            case 0 -> random.nextInt();
            case 1 -> pick(List.of(0, 1, -1, Integer.MAX_VALUE, Integer.MIN_VALUE, 32, 126, 127, 31));
            default -> random.nextInt(70) - 4;
        };
    }

    private char letter() {
        return random.nextInt(40) == 0 ? pick(List.of('-', 'A', '`', '{', (char) 0)) : (char) ('a' + random.nextInt(3));
    }

    private char of(String letters) {
        return random.nextInt(40) == 0 ? pick(List.of('?', 'z', '-', ' ')) : letters.charAt(random.nextInt(letters.length()));
    }

    private void make(String name) {
        Object[] args = arguments(name);
        tell(name, args);
    }

    private Object[] arguments(String name) {
        int places = count("code");
        int low = number(places);
        int high = random.nextInt(8) == 0 ? number(places) : Math.max(low, Math.min(low + random.nextInt(9), places - 1));
        int thread = number(count("thread"));
        int frame = random.nextInt(3) == 0 ? random.nextInt(5) : random.nextInt(20) == 0 ? pick(List.of(-1, 9, 99)) : 0;
        return switch (name) {
            case "code" -> instruction(null, of(KINDS));
            case "patch" -> instruction(low, random.nextInt(3) == 0 ? of(KINDS) : of(CALM));
            case "function", "scope" -> new Object[] {low, high};
            case "line" -> new Object[] {low, random.nextInt(10) == 0 ? random.nextInt(104) - 2 : random.nextInt(4)};
            case "rule" -> new Object[] {low, of("ioo-")};
            case "inlined" -> new Object[] {low, high, number(count("function")),
                    random.nextInt(20) == 0 ? random.nextInt(104) - 2 : random.nextInt(9)};
            case "variable" -> new Object[] {number(count("scope")), letter(), of("ibc"),
                    random.nextInt(4) == 0 ? random.nextInt(6) : 1};
            case "where" -> {
                char kind = of("rssssgg#");
                yield new Object[] {number(count("variable")), low, high, kind,
                        kind == '#' ? word() : kind == 'g' ? number(16) : number(4)};
            }
            case "thread", "stopIn" -> new Object[] {number(count("function"))};
            case "state", "fault", "frames" -> new Object[] {thread};
            case "hold" -> new Object[] {thread, random.nextInt(6) == 0};
            case "register" -> new Object[] {thread, number(4)};
            case "cell", "watch" -> new Object[] {random.nextInt(4) == 0 ? number(16) : number(3)};
            case "frame" -> new Object[] {thread, frame, of("fplib")};
            case "see", "show", "watchName" -> new Object[] {thread, frame, letter()};
            case "value" -> new Object[] {thread, frame, letter(), index()};
            case "set" -> new Object[] {thread, frame, letter(), index(), word()};
            case "shown" -> new Object[] {random.nextInt(8) - 1};
            case "stop" -> new Object[] {low};
            case "stopLine" -> new Object[] {random.nextInt(6) - 1};
            case "when" -> new Object[] {number(breakpoints()), random.nextInt(4) == 0 ? '-' : letter(), of("<=>"), word()};
            case "pass" -> new Object[] {number(breakpoints()), pick(List.of(0, 0, 1, 2, 9, -1, -1, -1, 99, 100, -2))};
            case "hits" -> new Object[] {number(breakpoints())};
            case "run" -> new Object[] {pick(RUNS_OF)};
            case "stepLine" -> new Object[] {thread, of("iou")};
            case "back" -> new Object[] {pick(List.of(1, 1, 2, 3, 10, 100, 999, 1000, 0, 1001, -1))};
            case "jump" -> new Object[] {thread, low};
            case "call" -> new Object[] {thread, number(count("function")), word()};
            default -> new Object[0];
        };
    }

    private int index() {
        return random.nextInt(6) == 0 ? random.nextInt(6) - 1 : 0;
    }

    private int breakpoints() {
        return count("stop") + count("stopLine") + count("stopIn");
    }

    private Object[] instruction(Integer place, char kind) {
        int a = number(4);
        int b = switch (kind) {
            case 'c' -> word();
            case 'g', 'p' -> random.nextInt(4) == 0 ? number(16) : number(3);
            case 'j' -> random.nextInt(3) == 0 ? number(60) : number(count("code") + 4);
            case 'k' -> random.nextInt(10) == 0 ? number(6) : number(count("function") + 1);
            case 'e' -> number(5);
            case 'l', 's' -> random.nextInt(50) == 0 ? number(4) : random.nextInt(slots);
            default -> number(4);
        };
        return place == null ? new Object[] {kind, a, b}
                : new Object[] {place, kind, a, b};
    }

    private void tell(String name, Object... args) {
        if (calls >= CALLS || wrong) {
            return;
        }
        calls++;
        told.add(name + Arrays.toString(args));
        String due = answer(MODEL, model, name, args);
        String got = answer(FACE, lens, name, args);
        if (!got.equals(due)) {
            wrong = true;
            checks.yes("seed " + seed + " call " + calls + " " + told.get(told.size() - 1) + " answered " + got
                    + ", due is " + due + " behind " + told, false);
            return;
        }
        boolean thrown = got.startsWith("throws.");
        if (name.equals("reason") || name.equals("fault") || name.equals("isTrue") || name.equals("see")) {
            seen.merge(name + " " + got, 1, Integer::sum);
        }
        seen.merge(thrown ? name + " " + got.substring(got.lastIndexOf('.') + 1) : name, 1, Integer::sum);
        if (!thrown) {
            counts.merge(name, 1, Integer::sum);
            String again = answer(FACE, twin, name, args);
            wrong = !again.equals(got);
            checks.yes("seed " + seed + " call " + calls + " " + told.get(told.size() - 1) + ": the twin answered "
                    + again + " and not " + got, !wrong);
        }
    }

    private static String answer(Map<String, Method> methods, Object object, String name, Object[] args) {
        try {
            return String.valueOf(methods.get(name).invoke(object, args));
        } catch (InvocationTargetException e) {
            Throwable thrown = e.getCause();
            StackTraceElement[] trace = thrown.getStackTrace();
            boolean own = trace.length > 0 && trace[0].getClassName().matches("(Unwindlens|Model).*");
            return (own ? "throws." : "is thrown at by the machine: ") + thrown.getClass().getName();
        } catch (IllegalAccessException e) {
            throw new IllegalStateException(e);
        }
    }
}
