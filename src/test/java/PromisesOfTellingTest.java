/** The promises 1 to 11 of the document, by which code, names and threads are told, sentence by sentence. */
public final class PromisesOfTellingTest {
    private static final Class<IndexOutOfBoundsException> INDEX = Sentences.INDEX;
    private static final Class<IllegalArgumentException> ARGUMENT = Sentences.ARGUMENT;
    private static final Class<UnsupportedOperationException> UNSUPPORTED = Sentences.UNSUPPORTED;
    private static final Class<IllegalStateException> STATE = Sentences.STATE;
    private static final int MAX = Integer.MAX_VALUE;
    private static final int MIN = Integer.MIN_VALUE;
    private static final Sentences DOC = new Sentences();

    private PromisesOfTellingTest() {
    }

    public static void main(String[] args) throws Exception {
        newObject();
        code();
        codeNumbers();
        codeRefused();
        patch();
        patchNumbers();
        function();
        functionRefused();
        line();
        rule();
        inlined();
        inlinedRefused();
        scope();
        scopeRefused();
        variable();
        variableRefused();
        where();
        whereNumbers();
        whereRefused();
        thread();
        DOC.end("PromisesOfTellingTest", "Promise 11");
    }

    private static void says(String text) {
        DOC.says(text);
    }

    private static void is(String what, long got, long due) {
        DOC.is(what, got, due);
    }

    private static void fails(String what, Class<? extends RuntimeException> due, Unwindlens x,
            java.util.concurrent.Callable<?> call) {
        DOC.fails(what, due, x, call);
    }

    /** So many instructions that do nothing. */
    private static Unwindlens places(int count) {
        Unwindlens x = new Unwindlens();
        for (int place = 0; place < count; place++) {
            x.code('n', 0, 0);
        }
        return x;
    }

    private static void newObject() throws Exception {
        DOC.promise(1);
        says("Creates a debugger without code, functions and threads.");
        Unwindlens x = new Unwindlens();
        fails("code", INDEX, x, () -> x.stop(0));
        fails("function", INDEX, x, () -> x.stopIn(0));
        fails("thread", INDEX, x, () -> x.frames(0));
        fails("all threads", Sentences.ARITHMETIC, x, () -> x.doneShare());
        Unwindlens other = Sample.base();
        other.run(500);
        Unwindlens y = new Unwindlens();
        is("apart from others", y.checksum(), x.checksum());
        is("time", y.time(), 0);
        is("first place", y.code('n', 0, 0), 0);
        is("first function", y.function(0, 0), 0);
        is("first thread", y.thread(0), 0);
    }

    private static void code() throws Exception {
        DOC.promise(2);
        says("Adds an instruction.");
        Unwindlens x = new Unwindlens();
        x.code('c', 2, 9);
        is("there", x.line(0, 1), -1);
        fails("but no other one", INDEX, x, () -> x.line(1, 1));
        x.code('m', 3, 2);
        x.function(0, 1);
        x.thread(0);
        x.run(2);
        is("its number", x.register(0, 2), 9);
        is("behind it the next", x.register(0, 3), 9);
        says("- `kind`: the kind");
        Unwindlens y = new Unwindlens();
        for (int place = 0; place < Kinds.ALL.length(); place++) {
            y.code(Kinds.ALL.charAt(place), 0, 0);
        }
        for (int place = 0; place < Kinds.ALL.length(); place++) {
            is("kind at " + place, y.patch(place, 'n', 0, 0), Kinds.ALL.charAt(place));
        }
        says("- `a`: a, a register 0 to 3 for 'c', 'm', '+', '-', '*', 'l', 'g', 's', 'p' and 'j',");
        for (char kind : Kinds.WITH_REGISTER.toCharArray()) {
            Unwindlens z = new Unwindlens();
            for (int register : new int[] {-1, 4, MIN, MAX, 256}) {
                fails(kind + " of " + register, ARGUMENT, z, () -> z.code(kind, register, 0));
            }
            for (int register = 0; register <= 3; register++) {
                is(kind + " of " + register, z.code(kind, register, 0), register);
            }
        }
        says("of no meaning otherwise");
        for (char kind : "nkexrh".toCharArray()) {
            Unwindlens due = places(1);
            due.jump(thread(due), due.code(kind, 0, 0));
            due.run(1);
            for (int a : new int[] {-1, 3, 4, MIN, MAX}) {
                Unwindlens z = places(1);
                z.jump(thread(z), z.code(kind, a, 0));
                z.run(1);
                is(kind + " with " + a, z.checksum(), due.checksum());
            }
        }
    }

    /** A thread of a function of the place 0 alone. */
    private static int thread(Unwindlens x) {
        x.function(0, 0);
        return x.thread(0);
    }

    private static void codeNumbers() {
        says("- `b`: b, any number for 'c',");
        for (int number : new int[] {MIN, -1, 0, 4, 60, MAX}) {
            Unwindlens x = new Unwindlens();
            x.code('c', 0, number);
            thread(x);
            x.run(1);
            is("becomes it", x.register(0, 0), number);
        }
        says("a register for 'm', '+', '-' and '*',");
        ranges("m+-*", 3);
        says("a slot 0 to 3 for 'l' and 's',");
        ranges("ls", 3);
        says("a cell 0 to 15 for 'g' and 'p',");
        ranges("gp", 15);
        says("0 to 59 for 'j',");
        ranges("j", 59);
        says("0 to 5 for 'k',");
        ranges("k", 5);
        says("0 to 4 for 'e',");
        ranges("e", 4);
        says("of no meaning otherwise");
        for (char kind : "nxrh".toCharArray()) {
            Unwindlens due = places(1);
            due.jump(thread(due), due.code(kind, 0, 0));
            due.run(1);
            for (int b : new int[] {-1, 5, 60, MIN, MAX}) {
                Unwindlens z = places(1);
                z.jump(thread(z), z.code(kind, 0, b));
                z.run(1);
                is(kind + " with " + b, z.checksum(), due.checksum());
            }
        }
    }

    private static void ranges(String kinds, int highest) {
        for (char kind : kinds.toCharArray()) {
            Unwindlens x = new Unwindlens();
            for (int number = 0; number <= highest; number++) {
                is(kind + " " + number, x.code(kind, 0, number), number);
            }
            Unwindlens y = new Unwindlens();
            for (int number : new int[] {-1, highest + 1, MIN, MAX, 256}) {
                fails(kind + " " + number, ARGUMENT, y, () -> y.code(kind, 0, number));
            }
        }
    }

    private static void codeRefused() {
        says("Returns its place.");
        Unwindlens x = new Unwindlens();
        for (int place = 0; place < 60; place++) {
            is("place", x.code('n', 0, 0), place);
        }
        says("Throws `IllegalArgumentException` if there is no such kind, or a number is out of range");
        Unwindlens y = new Unwindlens();
        for (int sign = 0; sign < 256; sign++) {
            char kind = (char) sign;
            if (Kinds.ALL.indexOf(kind) < 0) {
                fails("kind " + sign, ARGUMENT, y, () -> y.code(kind, 0, 0));
            }
        }
        fails("a kind that goes round to n", ARGUMENT, y, () -> y.code((char) (256 + 'n'), 0, 0));
        fails("the last one", ARGUMENT, y, () -> y.code((char) 65535, 0, 0));
        fails("a", ARGUMENT, y, () -> y.code('j', 4, 59));
        fails("b", ARGUMENT, y, () -> y.code('j', 3, 60));
        fails("both", ARGUMENT, y, () -> y.code('m', -1, -1));
        is("none of those was added", y.code('n', 0, 0), 0);
        fails("also as there are 60", ARGUMENT, x, () -> x.code('q', 0, 0));
        says("Throws `IllegalStateException` if there are 60");
        for (char kind : Kinds.ALL.toCharArray()) {
            fails("61st, " + kind, STATE, x, () -> x.code(kind, 0, 0));
        }
        Unwindlens last = places(59);
        is("not if there are 59", last.code('h', 0, 0), 59);
    }

    private static void patch() throws Exception {
        DOC.promise(3);
        says("Replaces an instruction, by hand.");
        Unwindlens x = Sample.base();
        x.stop(11);
        x.watch(3);
        x.run(50);
        x.patch(12, 'p', 0, 9);
        fails("nothing is kept then", UNSUPPORTED, x, () -> x.back(1));
        is("a hit again", x.run(50), 0);
        is("its steps", x.run(50), 13);
        is("another cell", x.cell(9), 7);
        is("not that of before", x.cell(3), 0);
        is("none is added", x.code('n', 0, 0), 14);
        says("- `place`: the place");
        for (int place : new int[] {0, 6, 13}) {
            Unwindlens y = Sample.base();
            y.patch(place, 'g', 3, 15);
            for (int other = 0; other <= 13; other++) {
                is("kind at " + other, y.patch(other, 'n', 0, 0),
                        other == place ? 'g' : "escsl+smxrckph".charAt(other));
            }
        }
        says("- `kind`: the kind");
        Unwindlens z = places(1);
        char before = 'n';
        for (char kind : Kinds.ALL.toCharArray()) {
            is("kind", z.patch(0, kind, 0, 0), before);
            before = kind;
        }
    }

    private static void patchNumbers() {
        says("- `a`: a");
        Unwindlens x = places(1);
        for (char kind : Kinds.ALL.toCharArray()) {
            boolean isRegister = Kinds.WITH_REGISTER.indexOf(kind) >= 0;
            for (int a : new int[] {-1, 4, MIN, MAX}) {
                if (isRegister) {
                    fails(kind + " of " + a, ARGUMENT, x, () -> x.patch(0, kind, a, 0));
                } else {
                    is(kind + " of " + a, Digest.answerOf(() -> x.patch(0, kind, a, 0)).length(), 3);
                }
            }
        }
        Unwindlens a = places(1);
        thread(a);
        a.patch(0, 'c', 3, 5);
        a.run(1);
        is("the register 3", a.register(0, 3), 5);
        says("- `b`: b");
        for (char kind : Kinds.WITH_RANGE.toCharArray()) {
            int highest = Kinds.highest(kind);
            Unwindlens y = places(1);
            for (int b : new int[] {-1, highest + 1, MIN, MAX}) {
                fails(kind + " of " + b, ARGUMENT, y, () -> y.patch(0, kind, 0, b));
            }
            is("0", y.patch(0, kind, 0, 0), 'n');
            is("highest", y.patch(0, kind, 0, highest), kind);
        }
        says("Returns the kind before.");
        Unwindlens z = Sample.base();
        is("as it was added", z.patch(11, 'c', 0, 0), 'k');
        is("as it was replaced", z.patch(11, 'h', 0, 0), 'c');
        says("Throws `IndexOutOfBoundsException` if there is no such place");
        for (int place : new int[] {-1, 14, 59, 60, MIN, MAX}) {
            fails("place " + place, INDEX, z, () -> z.patch(place, 'n', 0, 0));
        }
        fails("in a new object", INDEX, new Unwindlens(), () -> new Unwindlens().patch(0, 'n', 0, 0));
        fails("no kind either", INDEX, z, () -> z.patch(14, 'q', 0, 0));
        says("Throws `IllegalArgumentException` if there is no such kind, or a number is out of range");
        for (int sign = 0; sign < 256; sign++) {
            char kind = (char) sign;
            if (Kinds.ALL.indexOf(kind) < 0) {
                fails("kind " + sign, ARGUMENT, z, () -> z.patch(11, kind, 0, 0));
            }
        }
        fails("a number", ARGUMENT, z, () -> z.patch(11, 'p', 0, 16));
        is("not replaced by those", z.patch(11, 'n', 0, 0), 'h');
    }

    private static void function() throws Exception {
        DOC.promise(4);
        says("Adds a function.");
        Unwindlens x = places(10);
        fails("none at first", INDEX, x, () -> x.thread(0));
        x.function(4, 6);
        is("a thread of it", x.thread(0), 0);
        fails("no other one", INDEX, x, () -> x.thread(1));
        says("- `first`: the first place");
        is("begins there", x.frame(0, 0, 'p'), 4);
        x.jump(0, 3);
        is("not ahead", x.frame(0, 0, 'f'), -1);
        Unwindlens ends = places(3);
        is("at the place 0", ends.function(0, 1), 0);
        says("- `last`: the last one");
        x.jump(0, 6);
        is("it has it", x.frame(0, 0, 'f'), 0);
        x.jump(0, 7);
        is("not behind", x.frame(0, 0, 'f'), -1);
        is("at the last place", ends.function(2, 2), 1);
        Unwindlens all = places(60);
        is("all places", all.function(0, 59), 0);
        says("Returns its number.");
        Unwindlens six = places(12);
        for (int function = 0; function < 6; function++) {
            is("number", six.function(10 - 2 * function, 11 - 2 * function), function);
        }
    }

    private static void functionRefused() {
        says("Throws `IndexOutOfBoundsException` if there is no such place, for either");
        Unwindlens x = places(10);
        for (int place : new int[] {-1, 10, 59, 60, MIN, MAX}) {
            fails("first " + place, INDEX, x, () -> x.function(place, 9));
            fails("last " + place, INDEX, x, () -> x.function(0, place));
            fails("both " + place, INDEX, x, () -> x.function(place, place));
        }
        says("Throws `IllegalArgumentException` if the last one is ahead of the first one");
        fails("by one", ARGUMENT, x, () -> x.function(5, 4));
        fails("by all", ARGUMENT, x, () -> x.function(9, 0));
        is("not if it is the same", x.function(4, 4), 0);
        says("Throws `UnsupportedOperationException` if some place is of another function,");
        Unwindlens y = places(10);
        y.function(3, 6);
        int[][] rows = {{3, 6}, {3, 3}, {6, 6}, {4, 5}, {0, 3}, {6, 9}, {0, 9}, {2, 4}};
        for (int[] row : rows) {
            fails("from " + row[0] + " to " + row[1], UNSUPPORTED, y, () -> y.function(row[0], row[1]));
        }
        is("side by side ahead", y.function(2, 2), 1);
        is("side by side behind", y.function(7, 8), 2);
        says("or it would have a part of an inlined call");
        Unwindlens z = places(10);
        z.function(0, 0);
        z.inlined(3, 6, 0, 0);
        z.inlined(4, 5, 0, 0);
        for (int[] row : new int[][] {{3, 3}, {6, 6}, {3, 5}, {4, 5}, {2, 5}, {4, 9}, {4, 6}, {1, 3}}) {
            fails("from " + row[0] + " to " + row[1], UNSUPPORTED, z, () -> z.function(row[0], row[1]));
        }
        is("all of it", z.function(3, 6), 1);
        z.inlined(8, 8, 0, 0);
        is("all of another one and more", z.function(7, 9), 2);
        says("Throws `IllegalStateException` if there are 6");
        Unwindlens full = places(12);
        for (int function = 0; function < 6; function++) {
            full.function(function, function);
        }
        fails("seventh", STATE, full, () -> full.function(6, 11));
        fails("seventh of one place", STATE, full, () -> full.function(11, 11));
        fails("seventh of a place of another", UNSUPPORTED, full, () -> full.function(5, 11));
    }

    private static void line() throws Exception {
        DOC.promise(5);
        says("Tells the line of a place.");
        Unwindlens x = Sample.base();
        x.line(10, 8);
        is("shown", x.frame(0, 0, 'l'), 8);
        says("- `place`: the place");
        x.run(1);
        is("not of another place", x.frame(0, 0, 'l'), -1);
        for (int place : new int[] {0, 9, 13}) {
            x.line(place, 50 + place);
            x.jump(0, place);
            is("of the place " + place, x.frame(0, 0, 'l'), 50 + place);
        }
        says("- `line`: the line, -1 for none");
        for (int line = 0; line <= 99; line++) {
            x.line(13, line);
            is("line", x.frame(0, 0, 'l'), line);
        }
        x.line(13, -1);
        is("none", x.frame(0, 0, 'l'), -1);
        says("Returns the one before, -1 for none.");
        Unwindlens y = places(1);
        int[] lines = {-1, 0, 99, 99, -1, -1};
        for (int i = 1; i < lines.length; i++) {
            is("before", y.line(0, lines[i]), lines[i - 1]);
        }
        says("Throws `IndexOutOfBoundsException` if there is no such place");
        for (int place : new int[] {-1, 14, 59, 60, MIN, MAX}) {
            fails("place " + place, INDEX, x, () -> x.line(place, 0));
            fails("place " + place + " without a line", INDEX, x, () -> x.line(place, -1));
        }
        says("Throws `IllegalArgumentException` if the line is out of range");
        x.line(13, 77);
        for (int line : new int[] {-2, 100, MIN, MAX}) {
            fails("line " + line, ARGUMENT, x, () -> x.line(13, line));
        }
        is("as it was", x.line(13, 0), 77);
    }

    private static void rule() throws Exception {
        DOC.promise(6);
        says("Tells the rule of a place.");
        Unwindlens x = Lab.stack(3, 0, 8, 1);
        is("frames without", x.frames(0), 3);
        x.rule(8, 'i');
        is("frames with the rule i", x.frames(0), 2);
        x.rule(8, 'o');
        is("frames with the rule o", x.frames(0), 3);
        says("- `place`: the place");
        Unwindlens y = places(3);
        y.rule(1, 'i');
        is("the place ahead", y.rule(0, '-'), 'o');
        is("it", y.rule(1, 'i'), 'i');
        is("the place behind, in no function", y.rule(2, '-'), 'o');
        says("- `rule`: 'i', 'o', or '-' for none of its own");
        Unwindlens z = places(3);
        z.function(0, 2);
        z.rule(0, 'i');
        z.rule(1, 'o');
        is("o", z.rule(2, 'i'), 'o');
        is("i", z.rule(2, '-'), 'i');
        is("none of its own", z.rule(2, '-'), 'o');
        z.rule(1, '-');
        is("nor of the one ahead", z.rule(2, '-'), 'i');
        says("Returns the one that the place had by all that was told.");
        Unwindlens all = places(4);
        is("of its own", all.rule(3, 'i'), 'o');
        is("not of a later place", all.rule(2, '-'), 'o');
        all.rule(1, 'i');
        is("in no function none of another", all.rule(2, '-'), 'o');
        all.function(1, 2);
        is("by a function that was told later", all.rule(2, '-'), 'i');
        all.rule(0, 'i');
        all.rule(1, '-');
        is("not from ahead of the function", all.rule(2, '-'), 'o');
        says("Throws `IndexOutOfBoundsException` if there is no such place");
        for (int place : new int[] {-1, 4, 59, 60, MIN, MAX}) {
            fails("place " + place, INDEX, all, () -> all.rule(place, 'i'));
        }
        says("Throws `IllegalArgumentException` if there is no such rule");
        for (int sign = 0; sign < 256; sign++) {
            char rule = (char) sign;
            if (rule != 'i' && rule != 'o' && rule != '-') {
                fails("rule " + sign, ARGUMENT, all, () -> all.rule(3, rule));
            }
        }
        fails("one that goes round to i", ARGUMENT, all, () -> all.rule(3, (char) (256 + 'i')));
        is("as it was", all.rule(3, '-'), 'i');
    }

    private static void inlined() throws Exception {
        DOC.promise(7);
        says("Adds an inlined call.");
        Unwindlens x = Sample.base();
        is("one frame", x.frames(0), 1);
        x.inlined(10, 11, 0, 7);
        is("one frame more", x.frames(0), 2);
        is("it is inlined", x.frame(0, 0, 'i'), 1);
        says("- `first`: the first place");
        x.jump(0, 9);
        is("not ahead", x.frames(0), 1);
        x.inlined(0, 0, 0, 1);
        x.jump(0, 0);
        is("the place 0", x.frames(0), 2);
        says("- `last`: the last one");
        x.jump(0, 11);
        is("it has it", x.frames(0), 2);
        x.jump(0, 12);
        is("not behind", x.frames(0), 1);
        x.inlined(13, 13, 0, 1);
        x.jump(0, 13);
        is("the last place", x.frames(0), 2);
        says("- `function`: the function");
        Unwindlens y = Sample.base();
        y.inlined(10, 13, 0, 1);
        y.inlined(10, 12, 1, 1);
        is("function 1", y.frame(0, 0, 'f'), 1);
        is("function 0", y.frame(0, 1, 'f'), 0);
        is("the place's own", y.frame(0, 2, 'f'), 1);
        says("- `line`: the line of the call, 0 to 99");
        for (int line = 0; line <= 99; line++) {
            Unwindlens z = Sample.base();
            z.inlined(10, 10, 0, line);
            is("behind it", z.frame(0, 1, 'l'), line);
        }
        says("Returns its number.");
        Unwindlens six = Sample.base();
        for (int call = 0; call < 6; call++) {
            is("number", six.inlined(10 - call, 10 - call, 1, 0), call);
        }
    }

    private static void inlinedRefused() {
        says("Throws `IndexOutOfBoundsException` if there is no such place, for either, or no such function");
        Unwindlens x = Sample.base();
        for (int place : new int[] {-1, 14, 59, 60, MIN, MAX}) {
            fails("first " + place, INDEX, x, () -> x.inlined(place, 13, 0, 0));
            fails("last " + place, INDEX, x, () -> x.inlined(10, place, 0, 0));
        }
        for (int function : new int[] {-1, 2, 5, 6, MIN, MAX}) {
            fails("function " + function, INDEX, x, () -> x.inlined(10, 11, function, 0));
        }
        says("Throws `IllegalArgumentException` if the last one is ahead of the first one, or the line is out of range");
        fails("by one", ARGUMENT, x, () -> x.inlined(12, 11, 0, 0));
        fails("by all", ARGUMENT, x, () -> x.inlined(13, 0, 0, 0));
        for (int line : new int[] {-1, -2, 100, MIN, MAX}) {
            fails("line " + line, ARGUMENT, x, () -> x.inlined(10, 11, 0, line));
        }
        says("Throws `UnsupportedOperationException` if it is partly in a function,");
        Unwindlens y = places(10);
        y.function(3, 6);
        for (int[] row : new int[][] {{2, 3}, {6, 7}, {2, 7}, {3, 7}, {2, 6}, {0, 9}}) {
            fails("from " + row[0] + " to " + row[1], UNSUPPORTED, y, () -> y.inlined(row[0], row[1], 0, 0));
        }
        is("not if it is all of it", y.inlined(3, 6, 0, 0), 0);
        is("nor in none", y.inlined(7, 9, 0, 0), 1);
        says("in another one,");
        y.inlined(4, 5, 0, 0);
        fails("from ahead", UNSUPPORTED, y, () -> y.inlined(3, 4, 0, 0));
        fails("to behind", UNSUPPORTED, y, () -> y.inlined(5, 6, 0, 0));
        is("not within", y.inlined(4, 4, 0, 0), 3);
        is("nor around", y.inlined(3, 5, 0, 0), 4);
        says("or in a scope,");
        Unwindlens z = places(10);
        z.function(0, 9);
        z.scope(3, 6);
        fails("from ahead", UNSUPPORTED, z, () -> z.inlined(0, 3, 0, 0));
        fails("to behind", UNSUPPORTED, z, () -> z.inlined(6, 9, 0, 0));
        is("not within", z.inlined(4, 6, 0, 0), 0);
        is("nor the same", z.inlined(3, 6, 0, 0), 1);
        is("nor around", z.inlined(2, 6, 0, 0), 2);
        is("nor apart", z.inlined(7, 7, 0, 0), 3);
        says("or has the same places as another one");
        for (int[] row : new int[][] {{4, 6}, {3, 6}, {2, 6}, {7, 7}}) {
            fails("from " + row[0] + " to " + row[1], UNSUPPORTED, z, () -> z.inlined(row[0], row[1], 0, 5));
        }
        says("Throws `IllegalStateException` if there are 6");
        z.inlined(8, 8, 0, 0);
        is("the sixth", z.inlined(9, 9, 0, 0), 5);
        fails("the seventh", STATE, z, () -> z.inlined(0, 0, 0, 0));
        fails("the same as the sixth", UNSUPPORTED, z, () -> z.inlined(9, 9, 0, 0));
    }

    private static void scope() throws Exception {
        DOC.promise(8);
        says("Adds a scope.");
        Unwindlens x = Sample.base();
        fails("none at first", INDEX, x, () -> x.variable(0, 'a', 'i', 1));
        x.scope(10, 11);
        is("one", x.variable(0, 'a', 'i', 1), 0);
        fails("no other one", INDEX, x, () -> x.variable(1, 'a', 'i', 1));
        is("seen", x.see(0, 0, 'a'), 'g');
        says("- `first`: the first place");
        x.jump(0, 9);
        is("not ahead", x.see(0, 0, 'a'), 'n');
        x.scope(0, 2);
        x.variable(1, 'b', 'i', 1);
        x.jump(0, 0);
        is("the place 0", x.see(0, 0, 'b'), 'g');
        says("- `last`: the last one");
        x.jump(0, 11);
        is("it has it", x.see(0, 0, 'a'), 'g');
        x.jump(0, 12);
        is("not behind", x.see(0, 0, 'a'), 'n');
        x.scope(12, 13);
        x.variable(2, 'c', 'i', 1);
        x.jump(0, 13);
        is("the last place", x.see(0, 0, 'c'), 'g');
        says("Returns its number.");
        Unwindlens y = Sample.base();
        for (int scope = 0; scope < 12; scope++) {
            is("number", y.scope(scope < 6 ? 0 : 13 - scope, 13 - scope), scope);
        }
    }

    private static void scopeRefused() {
        says("Throws `IndexOutOfBoundsException` if there is no such place, for either");
        Unwindlens x = Sample.base();
        for (int place : new int[] {-1, 14, 59, 60, MIN, MAX}) {
            fails("first " + place, INDEX, x, () -> x.scope(place, 13));
            fails("last " + place, INDEX, x, () -> x.scope(0, place));
        }
        fails("in a new object", INDEX, new Unwindlens(), () -> new Unwindlens().scope(0, 0));
        says("Throws `IllegalArgumentException` if the last one is ahead of the first one");
        fails("by one", ARGUMENT, x, () -> x.scope(5, 4));
        fails("by all", ARGUMENT, x, () -> x.scope(13, 0));
        says("Throws `UnsupportedOperationException` if it is partly in another one,");
        x.scope(3, 6);
        for (int[] row : new int[][] {{2, 3}, {0, 5}, {6, 7}, {4, 13}}) {
            fails("from " + row[0] + " to " + row[1], UNSUPPORTED, x, () -> x.scope(row[0], row[1]));
        }
        is("not the same", x.scope(3, 6), 1);
        is("nor within", x.scope(4, 6), 2);
        is("nor around", x.scope(3, 7), 3);
        is("nor apart", x.scope(8, 9), 4);
        says("or in an inlined call");
        Unwindlens y = Sample.base();
        y.inlined(3, 6, 0, 0);
        for (int[] row : new int[][] {{2, 3}, {0, 5}, {6, 7}, {4, 13}}) {
            fails("from " + row[0] + " to " + row[1], UNSUPPORTED, y, () -> y.scope(row[0], row[1]));
        }
        is("not the same", y.scope(3, 6), 0);
        is("nor within", y.scope(4, 6), 1);
        is("nor around", y.scope(3, 7), 2);
        is("nor apart", y.scope(9, 10), 3);
        says("Throws `IllegalStateException` if there are 12");
        for (int scope = 4; scope < 12; scope++) {
            is("number", y.scope(9, 10), scope);
        }
        fails("the 13th", STATE, y, () -> y.scope(9, 10));
        fails("the 13th partly in another", UNSUPPORTED, y, () -> y.scope(10, 11));
    }

    private static void variable() throws Exception {
        DOC.promise(9);
        says("Adds a variable.");
        Unwindlens x = Sample.base();
        x.scope(10, 13);
        x.scope(10, 11);
        is("none at first", x.see(0, 0, 'v'), 'n');
        x.variable(0, 'v', 'i', 1);
        is("one", x.see(0, 0, 'v'), 'g');
        says("- `scope`: the scope");
        x.variable(1, 'w', 'i', 1);
        is("in the scope", x.see(0, 0, 'w'), 'g');
        x.jump(0, 12);
        is("not out of it", x.see(0, 0, 'w'), 'n');
        is("that of the scope 0", x.see(0, 0, 'v'), 'g');
        says("- `letter`: the name");
        for (char letter = 'a'; letter <= 'z'; letter++) {
            Unwindlens y = Sample.base();
            y.scope(10, 13);
            y.variable(0, letter, 'i', 1);
            for (char other = 'a'; other <= 'z'; other++) {
                is(letter + " by " + other, y.see(0, 0, other), other == letter ? 'g' : 'n');
            }
        }
        says("- `kind`: 'i', 'b' or 'c'");
        String[] shown = {"65", "true", "'A'"};
        for (int i = 0; i < 3; i++) {
            DOC.is("shown", Sample.shown(celled("ibc".charAt(i), 1), 0, 0, 'v'), shown[i]);
        }
        says("- `words`: how many words, 1 to 4");
        String[] texts = {"65", "{65, 0}", "{65, 0, 0}", "{65, 0, 0, 0}"};
        for (int words = 1; words <= 4; words++) {
            Unwindlens y = celled('i', words);
            int count = words;
            DOC.is("shown", Sample.shown(y, 0, 0, 'v'), texts[words - 1]);
            is("the last word", y.value(0, 0, 'v', words - 1), words == 1 ? 65 : 0);
            fails("no more", INDEX, y, () -> y.value(0, 0, 'v', count));
        }
        says("Returns its number.");
        Unwindlens z = Sample.base();
        z.scope(0, 9);
        z.scope(10, 13);
        for (int variable = 0; variable < 20; variable++) {
            is("number", z.variable(variable % 2, 'a', 'i', 1), variable);
        }
    }

    /** The variable v in the cells from 8 on, of which the first one is 65. */
    private static Unwindlens celled(char kind, int words) {
        Unwindlens x = Sample.base();
        x.scope(10, 13);
        x.variable(0, 'v', kind, words);
        x.where(0, 10, 13, 'g', 8);
        x.set(0, 0, 'v', 0, 65);
        return x;
    }

    private static void variableRefused() {
        says("Throws `IndexOutOfBoundsException` if there is no such scope");
        Unwindlens x = Sample.base();
        fails("none at all", INDEX, x, () -> x.variable(0, 'v', 'i', 1));
        x.scope(10, 13);
        for (int scope : new int[] {-1, 1, 11, 12, MIN, MAX}) {
            fails("scope " + scope, INDEX, x, () -> x.variable(scope, 'v', 'i', 1));
        }
        says("Throws `IllegalArgumentException` if it is no small letter,");
        for (int sign = 0; sign < 256; sign++) {
            char letter = (char) sign;
            if (letter < 'a' || letter > 'z') {
                fails("sign " + sign, ARGUMENT, x, () -> x.variable(0, letter, 'i', 1));
            }
        }
        fails("one that goes round to a", ARGUMENT, x, () -> x.variable(0, (char) (256 + 'a'), 'i', 1));
        says("or there is no such kind,");
        for (int sign = 0; sign < 256; sign++) {
            char kind = (char) sign;
            if (kind != 'i' && kind != 'b' && kind != 'c') {
                fails("kind " + sign, ARGUMENT, x, () -> x.variable(0, 'v', kind, 1));
            }
        }
        says("or the number is out of range");
        for (int words : new int[] {0, 5, -1, MIN, MAX}) {
            fails(words + " words", ARGUMENT, x, () -> x.variable(0, 'v', 'i', words));
        }
        is("none of those was added", x.variable(0, 'v', 'i', 1), 0);
        says("Throws `IllegalStateException` if there are 20");
        for (int variable = 1; variable < 20; variable++) {
            is("number", x.variable(0, 'v', 'i', 1), variable);
        }
        fails("the 21st", STATE, x, () -> x.variable(0, 'w', 'i', 1));
        is("it is not there", x.see(0, 0, 'w'), 'n');
        fails("the 21st without a kind", ARGUMENT, x, () -> x.variable(0, 'w', 'q', 1));
    }

    private static void where() throws Exception {
        DOC.promise(10);
        says("Tells where a variable is.");
        Unwindlens x = Sample.base();
        x.scope(0, 13);
        x.variable(0, 'a', 'i', 1);
        x.variable(0, 'b', 'i', 1);
        is("gone at first", x.see(0, 0, 'a'), 'g');
        x.where(0, 10, 11, '#', 4);
        is("there", x.value(0, 0, 'a', 0), 4);
        says("- `variable`: the variable");
        is("not another one", x.see(0, 0, 'b'), 'g');
        x.where(1, 10, 11, '#', 5);
        is("the other one", x.value(0, 0, 'b', 0), 5);
        is("it still", x.value(0, 0, 'a', 0), 4);
        says("- `first`: the first place");
        x.jump(0, 9);
        is("not ahead", x.see(0, 0, 'a'), 'g');
        x.where(0, 0, 0, '#', 6);
        x.jump(0, 0);
        is("the place 0", x.value(0, 0, 'a', 0), 6);
        says("- `last`: the last one");
        x.jump(0, 11);
        is("it has it", x.value(0, 0, 'a', 0), 4);
        x.jump(0, 12);
        is("not behind", x.see(0, 0, 'a'), 'g');
        x.where(0, 13, 13, '#', 7);
        x.jump(0, 13);
        is("the last place", x.value(0, 0, 'a', 0), 7);
        says("- `kind`: 'r', 's', 'g' or '#'");
        Unwindlens y = Sample.named();
        y.run(4);
        y.jump(0, 9);
        int[] values = {5, 5, 0, 1};
        for (int i = 0; i < 4; i++) {
            y.where(0, 9, 9, "rsg#".charAt(i), i == 3 ? 1 : 0);
            is("kind", y.value(0, 0, 'x', 0), values[i]);
        }
    }

    private static void whereNumbers() {
        says("- `number`: a register 0 to 3,");
        numbers('r', 3);
        says("a slot 0 to 3,");
        numbers('s', 3);
        says("a cell 0 to 15,");
        numbers('g', 15);
        says("or any number");
        Unwindlens x = Sample.base();
        x.scope(10, 13);
        x.variable(0, 'v', 'i', 1);
        int told = 0;
        for (int number : new int[] {MIN, -1, 0, 3, 4, 15, 16, MAX}) {
            told++;
            is("told", x.where(0, 10, 13, '#', number), told);
            is("it is", x.value(0, 0, 'v', 0), number);
        }
        says("Returns how many are told, of all variables.");
        Unwindlens y = Sample.base();
        y.scope(10, 13);
        for (int variable = 0; variable < 3; variable++) {
            y.variable(0, 'v', 'i', 1);
        }
        for (int row = 1; row <= 24; row++) {
            is("told", y.where(row % 3, 10, 13, "rsg#".charAt(row % 4), 0), row);
        }
    }

    private static void numbers(char kind, int highest) {
        Unwindlens x = Sample.base();
        x.scope(10, 13);
        x.variable(0, 'v', 'i', 1);
        for (int number : new int[] {-1, highest + 1, MIN, MAX}) {
            fails(kind + " " + number, ARGUMENT, x, () -> x.where(0, 10, 13, kind, number));
        }
        for (int number = 0; number <= highest; number++) {
            is(kind + " " + number, x.where(0, 10, 13, kind, number), number + 1);
        }
    }

    private static void whereRefused() {
        says("Throws `IndexOutOfBoundsException` if there is no such variable,");
        Unwindlens x = Sample.base();
        x.scope(10, 13);
        fails("none at all", INDEX, x, () -> x.where(0, 10, 13, 'r', 0));
        x.variable(0, 'v', 'i', 1);
        for (int variable : new int[] {-1, 1, 19, 20, MIN, MAX}) {
            fails("variable " + variable, INDEX, x, () -> x.where(variable, 10, 13, 'r', 0));
        }
        says("or no such place, for either");
        for (int place : new int[] {-1, 14, 59, 60, MIN, MAX}) {
            fails("first " + place, INDEX, x, () -> x.where(0, place, 13, 'r', 0));
            fails("last " + place, INDEX, x, () -> x.where(0, 10, place, 'r', 0));
        }
        says("Throws `IllegalArgumentException` if the last one is ahead of the first one,");
        fails("by one", ARGUMENT, x, () -> x.where(0, 11, 10, 'r', 0));
        fails("by all", ARGUMENT, x, () -> x.where(0, 13, 0, '#', 0));
        says("there is no such kind,");
        for (int sign = 0; sign < 256; sign++) {
            char kind = (char) sign;
            if ("rsg#".indexOf(kind) < 0) {
                fails("kind " + sign, ARGUMENT, x, () -> x.where(0, 10, 13, kind, 0));
            }
        }
        says("or the number is out of range");
        fails("register", ARGUMENT, x, () -> x.where(0, 10, 13, 'r', 4));
        fails("slot", ARGUMENT, x, () -> x.where(0, 10, 13, 's', 4));
        fails("cell", ARGUMENT, x, () -> x.where(0, 10, 13, 'g', 16));
        is("none of those was told", x.where(0, 13, 13, '#', 0), 1);
        is("gone still", x.see(0, 0, 'v'), 'g');
        says("Throws `IllegalStateException` if there are 24");
        for (int row = 2; row <= 24; row++) {
            is("told", x.where(0, 13, 13, '#', row), row);
        }
        fails("the 25th", STATE, x, () -> x.where(0, 10, 13, '#', 0));
        is("gone still", x.see(0, 0, 'v'), 'g');
        fails("the 25th without a kind", ARGUMENT, x, () -> x.where(0, 10, 13, 'q', 0));
    }

    private static void thread() throws Exception {
        DOC.promise(11);
        says("Adds a thread.");
        Unwindlens x = Sample.functions();
        fails("none at first", INDEX, x, () -> x.state(0));
        x.thread(1);
        is("one", x.state(0), 'r');
        fails("no other one", INDEX, x, () -> x.state(1));
        is("it goes", x.run(500), 14);
        says("- `function`: the function");
        x.thread(0);
        x.thread(1);
        is("of the function 0", x.frame(1, 0, 'p'), 0);
        is("of the function 1", x.frame(2, 0, 'p'), 10);
        says("Returns its number.");
        Unwindlens y = Sample.functions();
        for (int thread = 0; thread < 3; thread++) {
            is("number", y.thread(0), thread);
        }
        says("Throws `IndexOutOfBoundsException` if there is no such function");
        Unwindlens z = Sample.functions();
        for (int function : new int[] {-1, 2, 5, 6, MIN, MAX}) {
            fails("function " + function, INDEX, z, () -> z.thread(function));
        }
        fails("also as there are 3", INDEX, y, () -> y.thread(2));
        says("Throws `IllegalStateException` if there are 3");
        fails("the fourth", STATE, y, () -> y.thread(1));
        y.run(500);
        fails("the fourth, though they go no more", STATE, y, () -> y.thread(1));
        fails("not added", INDEX, y, () -> y.state(3));
    }
}
