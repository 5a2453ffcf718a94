/** The promises 24 to 44 of the document, by which the target is run and changed, sentence by sentence. */
public final class PromisesOfRunsTest {
    private static final Class<IndexOutOfBoundsException> INDEX = Sentences.INDEX;
    private static final Class<IllegalArgumentException> ARGUMENT = Sentences.ARGUMENT;
    private static final Class<java.util.NoSuchElementException> ELEMENT = Sentences.ELEMENT;
    private static final Class<UnsupportedOperationException> UNSUPPORTED = Sentences.UNSUPPORTED;
    private static final Class<IllegalStateException> STATE = Sentences.STATE;
    private static final Class<ArithmeticException> ARITHMETIC = Sentences.ARITHMETIC;
    private static final int MAX = Integer.MAX_VALUE;
    private static final int MIN = Integer.MIN_VALUE;
    /** Signs that are no small letters. */
    private static final char[] NO_LETTERS = {'`', '{', 'A', 'X', 0, 32, 256 + 'x', 65535};
    private static final Sentences DOC = new Sentences();

    private PromisesOfRunsTest() {
    }

    public static void main(String[] args) throws Exception {
        stop();
        stopLine();
        stopIn();
        when();
        whenRefused();
        pass();
        passRefused();
        hits();
        watch();
        watchName();
        watchNameRefused();
        run();
        stepLine();
        stepLineRefused();
        reason();
        which();
        back();
        backTo();
        set();
        setRefused();
        jump();
        jumpRefused();
        call();
        callRefused();
        doneShare();
        meanStack();
        checksum();
        isTrue();
        isTrueOfFrames();
        DOC.end("PromisesOfRunsTest", "Promise 44");
    }

    private static void says(String text) {
        DOC.says(text);
    }

    private static void is(String what, long got, long due) {
        DOC.is(what, got, due);
    }

    private static void fails(String what, Class<? extends RuntimeException> due, Unwindlens x,
            java.util.concurrent.Callable<?> call) {
        DOC.fails(what, due, x, call);
    }

    /** The cell 2 becomes 1, 2, 3 .. at the place 2, each third step. */
    private static Unwindlens loop() {
        return Sample.thread("c 3 1; + 0 3; p 0 2; j 3 1");
    }

    /** The base program, of which the lines 5 and 6 begin at the places 1 and 11, and at 4. */
    private static Unwindlens lined() {
        Unwindlens x = Sample.base();
        x.line(1, 5);
        x.line(4, 6);
        x.line(11, 5);
        return x;
    }

    private static void stop() throws Exception {
        DOC.promise(24);
        says("Adds a breakpoint at a place.");
        Unwindlens x = Sample.base();
        fails("none at first", INDEX, x, () -> x.hits(0));
        x.stop(12);
        is("without hits", x.hits(0), 0);
        fails("no other one", INDEX, x, () -> x.hits(1));
        is("to it", x.run(50), 12);
        is("a hit", x.hits(0), 1);
        says("- `place`: the place");
        for (int place = 0; place <= 13; place++) {
            Unwindlens y = Sample.base();
            y.stop(place);
            y.run(50);
            is("at the place", y.frame(0, 0, 'p'), place);
            is("on", y.run(50) > 0 ? y.reason() : 0, 'd');
        }
        Unwindlens last = new Unwindlens();
        for (int place = 0; place < 60; place++) {
            last.code('n', 0, 0);
        }
        last.function(0, 59);
        last.thread(0);
        last.stop(59);
        is("to the place 59", last.run(500), 59);
        says("Returns its number.");
        Unwindlens eight = lined();
        for (int breakpoint = 0; breakpoint < 8; breakpoint++) {
            is("number", breakpoint == 3 ? eight.stopLine(5) : breakpoint == 5 ? eight.stopIn(0) : eight.stop(breakpoint),
                    breakpoint);
        }
        says("Throws `IndexOutOfBoundsException` if there is no such place");
        for (int place : new int[] {-1, 14, 59, 60, 64, MIN, MAX}) {
            fails("place " + place, INDEX, x, () -> x.stop(place));
        }
        fails("also as there are 8", INDEX, eight, () -> eight.stop(14));
        fails("in a new object", INDEX, new Unwindlens(), () -> new Unwindlens().stop(0));
        says("Throws `IllegalStateException` if there are 8");
        fails("the ninth", STATE, eight, () -> eight.stop(13));
        eight.pass(7, -1);
        fails("also if one is off", STATE, eight, () -> eight.stop(13));
        is("it does not stop", eight.run(1), 1);
    }

    private static void stopLine() throws Exception {
        DOC.promise(25);
        says("Adds a breakpoint at a line.");
        Unwindlens x = lined();
        x.stopLine(6);
        is("to its place", x.run(50), 6);
        is("place", x.frame(0, 0, 'p'), 4);
        fails("one alone", INDEX, x, () -> x.hits(1));
        says("- `line`: the line");
        Unwindlens y = lined();
        y.stopLine(5);
        is("to the first place", y.run(50), 1);
        is("to the next place", y.run(50), 2);
        is("not to that of another line", y.run(50), 11);
        for (int line : new int[] {0, 99}) {
            Unwindlens z = lined();
            z.line(13, line);
            z.stopLine(line);
            is("line " + line, z.run(50), 13);
        }
        says("Returns its number.");
        Unwindlens eight = lined();
        for (int breakpoint = 0; breakpoint < 8; breakpoint++) {
            is("number", eight.stopLine(5 + breakpoint % 2), breakpoint);
        }
        says("Throws `NoSuchElementException` if it begins nowhere");
        Unwindlens none = lined();
        for (int line : new int[] {-1, 0, 4, 7, 99, 100, -2, MIN, MAX}) {
            fails("line " + line, ELEMENT, none, () -> none.stopLine(line));
        }
        none.line(4, -1);
        fails("a line that no place has any more", ELEMENT, none, () -> none.stopLine(6));
        fails("in a new object", ELEMENT, new Unwindlens(), () -> new Unwindlens().stopLine(0));
        fails("also as there are 8", ELEMENT, eight, () -> eight.stopLine(7));
        says("Throws `IllegalStateException` if there are 8");
        fails("the ninth", STATE, eight, () -> eight.stopLine(5));
    }

    private static void stopIn() throws Exception {
        DOC.promise(26);
        says("Adds a breakpoint at a function.");
        Unwindlens x = Sample.base();
        x.stopIn(0);
        is("to its first place with the rule i", x.run(50), 3);
        is("place", x.frame(0, 0, 'p'), 1);
        is("at no other", x.run(50), 11);
        says("- `function`: the function");
        Unwindlens y = Sample.base();
        y.stopIn(1);
        is("to that of 1", y.run(50), 0);
        Unwindlens six = new Unwindlens();
        Sample.code(six, "n 0 0; n 0 0; n 0 0; n 0 0; n 0 0; n 0 0");
        for (int function = 0; function < 6; function++) {
            six.function(5 - function, 5 - function);
        }
        six.thread(5);
        says("Returns its number.");
        for (int function = 0; function < 6; function++) {
            is("number", six.stopIn(function), function);
        }
        for (int steps = 0; steps < 6; steps++) {
            is("steps", six.run(50), steps == 0 ? 0 : 1);
            is("the function", six.which(), 5 - steps);
        }
        says("Throws `IndexOutOfBoundsException` if there is no such function");
        for (int function : new int[] {-1, 2, 5, 6, MIN, MAX}) {
            fails("function " + function, INDEX, x, () -> x.stopIn(function));
        }
        says("Throws `IllegalStateException` if there are 8");
        is("the seventh", six.stopIn(0), 6);
        is("the eighth", six.stopIn(0), 7);
        fails("the ninth", STATE, six, () -> six.stopIn(0));
        fails("the ninth of no function", INDEX, six, () -> six.stopIn(6));
    }

    /** Breakpoints at the places 4 and 7, where x is 5 and 7. */
    private static Unwindlens stopped() {
        Unwindlens x = Sample.named();
        x.stop(4);
        x.stop(7);
        return x;
    }

    private static void when() throws Exception {
        DOC.promise(27);
        says("Tells the condition of a breakpoint.");
        Unwindlens x = stopped();
        x.when(0, 'x', '=', 6);
        is("it does not hold", x.run(50), 9);
        says("- `breakpoint`: the breakpoint");
        is("so it is the other one", x.which(), 1);
        Unwindlens other = stopped();
        other.when(1, 'x', '=', 6);
        is("the first one has none", other.run(50), 6);
        is("that of the other one does not hold", other.run(50), 8);
        says("- `letter`: the name, '-' for no condition");
        Unwindlens y = stopped();
        y.variable(0, 'z', 'i', 1);
        y.where(1, 0, 9, '#', 6);
        y.when(0, 'x', '=', 6);
        y.when(0, 'z', '=', 6);
        is("another name, told anew", y.run(50), 6);
        for (char letter = 'a'; letter <= 'z'; letter++) {
            is("letter", y.when(1, letter, '<', 0), 0);
        }
        y.when(1, '-', '<', 0);
        is("none any more", y.run(50), 3);
        says("- `how`: '<', '=' or '>', of no meaning without");
        for (int sign = 0; sign < 256; sign++) {
            is("of no meaning", y.when(0, '-', (char) sign, 7), 1);
        }
        int[] numbers = {6, 5, 4};
        for (int i = 0; i < 3; i++) {
            Unwindlens z = stopped();
            z.when(0, 'x', "<=>".charAt(i), numbers[i]);
            is("it holds", z.run(50), 6);
        }
        says("- `number`: the number");
        for (int number : new int[] {MIN, -1, 0, 6, MAX}) {
            Unwindlens z = stopped();
            z.run(50);
            z.set(0, 0, 'x', 0, number);
            z.when(0, 'x', '=', number);
            is("any", z.run(50), 0);
            z.when(0, 'x', '=', number + 1);
            z.jump(0, 4);
            is("not another", z.run(50), 3);
        }
    }

    private static void whenRefused() {
        says("Returns how many hits it had.");
        Unwindlens x = stopped();
        is("none", x.when(0, 'x', '=', 5), 0);
        x.run(50);
        is("one", x.when(0, 'x', '=', 5), 1);
        is("none of the other one", x.when(1, '-', '=', 0), 0);
        x.jump(0, 4);
        x.run(50);
        is("two", x.when(0, '-', '=', 5), 2);
        is("asked in another way", x.hits(0), 2);
        says("Throws `IndexOutOfBoundsException` if there is no such breakpoint");
        for (int breakpoint : new int[] {-1, 2, 7, 8, MIN, MAX}) {
            fails("breakpoint " + breakpoint, INDEX, x, () -> x.when(breakpoint, 'x', '=', 0));
            fails("no condition of " + breakpoint, INDEX, x, () -> x.when(breakpoint, '-', '=', 0));
        }
        fails("nor a letter", INDEX, x, () -> x.when(2, 'X', '!', 0));
        says("Throws `IllegalArgumentException` if it is no small letter and no '-',");
        x.when(0, 'x', '=', 6);
        for (char letter : NO_LETTERS) {
            fails("sign " + (int) letter, ARGUMENT, x, () -> x.when(0, letter, '=', 5));
        }
        says("or there is no such sign");
        for (int sign = 0; sign < 256; sign++) {
            char how = (char) sign;
            if ("<=>".indexOf(how) < 0) {
                fails("sign " + sign, ARGUMENT, x, () -> x.when(0, 'x', how, 5));
            }
        }
        fails("one that goes round to =", ARGUMENT, x, () -> x.when(0, 'x', (char) (256 + '='), 5));
        x.jump(0, 4);
        is("the condition is as it was", x.run(50), 3);
    }

    private static void pass() throws Exception {
        DOC.promise(28);
        says("Passes hits of a breakpoint over, or lets it be off.");
        Unwindlens x = loop();
        x.stop(1);
        x.pass(0, 2);
        is("the third hit", x.run(500), 7);
        x.pass(0, -1);
        is("off", x.run(500), 500);
        says("- `breakpoint`: the breakpoint");
        Unwindlens y = loop();
        y.stop(1);
        y.stop(2);
        y.pass(1, 1);
        is("not the other one", y.run(50), 1);
        is("it alone", y.run(50), 3);
        is("by the other one", y.which(), 0);
        is("its second hit", y.run(50), 1);
        is("by it", y.which(), 1);
        says("- `hits`: how many of the next ones, 0 to 99, -1 to let it be off;");
        for (int hits = 0; hits <= 99; hits++) {
            Unwindlens z = loop();
            z.stop(1);
            z.pass(0, hits);
            is("the next " + hits, z.run(500), 1 + 3 * hits);
            is("counted", z.hits(0), hits + 1);
        }
        Unwindlens off = loop();
        off.stop(1);
        off.pass(0, 5);
        off.pass(0, -1);
        off.run(50);
        is("none is counted", off.hits(0), 0);
        says("it is on otherwise");
        off.pass(0, 0);
        is("on, with none to pass over", off.run(50), 2);
        off.pass(0, -1);
        off.pass(0, 1);
        off.jump(0, 1);
        is("on, with one to pass over", off.run(50), 3);
    }

    private static void passRefused() {
        says("Returns how many hits it had.");
        Unwindlens x = loop();
        x.stop(1);
        is("none", x.pass(0, 3), 0);
        x.run(8);
        is("those that were passed over", x.pass(0, -1), 3);
        x.run(50);
        is("none more while it was off", x.pass(0, 0), 3);
        x.run(50);
        is("one more", x.pass(0, 0), 4);
        says("Throws `IndexOutOfBoundsException` if there is no such breakpoint");
        for (int breakpoint : new int[] {-1, 1, 7, 8, MIN, MAX}) {
            fails("breakpoint " + breakpoint, INDEX, x, () -> x.pass(breakpoint, 0));
        }
        fails("nor a number", INDEX, x, () -> x.pass(1, 100));
        says("Throws `IllegalArgumentException` if a number is out of range");
        x.pass(0, 2);
        for (int hits : new int[] {-2, 100, MIN, MAX}) {
            fails(hits + " hits", ARGUMENT, x, () -> x.pass(0, hits));
        }
        x.jump(0, 1);
        is("two are passed over still", x.run(50), 6);
    }

    private static void hits() throws Exception {
        DOC.promise(29);
        says("Returns how many hits a breakpoint had.");
        Unwindlens x = loop();
        x.stop(1);
        is("none", x.hits(0), 0);
        for (int hits = 1; hits <= 5; hits++) {
            x.run(50);
            is("one more", x.hits(0), hits);
        }
        says("- `breakpoint`: the breakpoint");
        for (int breakpoint = 1; breakpoint < 8; breakpoint++) {
            x.stop(0);
            is("breakpoint " + breakpoint, x.hits(breakpoint), 0);
        }
        x.jump(0, 0);
        x.run(50);
        is("of its own", x.hits(1), 1);
        is("none of the others", x.hits(2), 0);
        is("none of the first one", x.hits(0), 5);
        says("Returns how many.");
        Unwindlens many = loop();
        many.stop(1);
        for (int passed = 1; passed <= 5; passed++) {
            many.pass(0, 99);
            many.run(300);
            is("those that are passed over too", many.hits(0), 100 * passed);
            many.jump(0, 0);
        }
        Unwindlens none = Sample.base();
        none.stop(11);
        none.when(0, 'x', '=', 0);
        none.run(50);
        is("none as the condition does not hold", none.hits(0), 0);
        says("Throws `IndexOutOfBoundsException` if there is no such breakpoint");
        Unwindlens two = loop();
        fails("none at all", INDEX, two, () -> two.hits(0));
        two.stop(1);
        two.stop(1);
        for (int breakpoint : new int[] {-1, 2, 7, 8, MIN, MAX}) {
            fails("breakpoint " + breakpoint, INDEX, two, () -> two.hits(breakpoint));
        }
    }

    private static void watch() throws Exception {
        DOC.promise(30);
        says("Watches a cell.");
        Unwindlens x = loop();
        x.watch(2);
        is("till it changes", x.run(50), 3);
        is("by the watch", x.reason(), 'w');
        is("its word then", x.cell(2), 1);
        says("- `cell`: the cell");
        for (int cell = 0; cell <= 15; cell++) {
            Unwindlens y = Sample.thread("c 0 5; p 0 " + cell + "; p 0 " + (cell + 1) % 16 + "; h 0 0");
            y.watch((cell + 1) % 16);
            is("not another one", y.run(50), 3);
            is("but it", y.reason(), 'w');
        }
        says("Returns the number of the watch.");
        Unwindlens z = Sample.named();
        z.run(4);
        is("the first", z.watch(9), 0);
        is("of a variable", z.watchName(0, 0, 'x'), 1);
        is("the third", z.watch(9), 2);
        is("the fourth", z.watch(15), 3);
        says("Throws `IndexOutOfBoundsException` if there is no such cell");
        for (int cell : new int[] {-1, 16, 17, MIN, MAX}) {
            fails("cell " + cell, INDEX, x, () -> x.watch(cell));
            fails("cell " + cell + ", as there are 4", INDEX, z, () -> z.watch(cell));
        }
        says("Throws `IllegalStateException` if there are 4");
        for (int cell : new int[] {0, 9, 15}) {
            fails("the fifth", STATE, z, () -> z.watch(cell));
        }
        z.run(500);
        fails("the fifth, though one ended", STATE, z, () -> z.watch(0));
    }

    private static void watchName() throws Exception {
        DOC.promise(31);
        says("Watches a variable at a frame.");
        Unwindlens x = Sample.named();
        x.run(4);
        x.watchName(0, 0, 'x');
        is("till it changes", x.run(50), 5);
        is("by the watch", x.reason(), 'w');
        is("its word then", x.value(0, 0, 'x', 0), 7);
        says("- `thread`: the thread");
        Unwindlens y = Sample.named();
        y.thread(1);
        y.run(8);
        is("0 is there", y.see(0, 0, 'x'), 'v');
        is("1 is there", y.see(1, 0, 'x'), 'v');
        y.watchName(1, 0, 'x');
        is("not that of 0, which is ahead", y.run(50), 10);
        is("that of 1", y.value(1, 0, 'x', 0), 7);
        says("- `frame`: the frame, from 0");
        Unwindlens z = slots();
        is("frames", z.frames(0), 2);
        z.watchName(0, 1, 'v');
        z.run(50);
        is("of the frame 1", z.register(0, 0), 6);
        fails("no more", INDEX, z, () -> z.watchName(0, 2, 'v'));
        Unwindlens first = slots();
        first.watchName(0, 0, 'v');
        first.run(50);
        is("of the frame 0", first.register(0, 0), 5);
        says("- `letter`: the name");
        Unwindlens names = Sample.named();
        names.variable(0, 'a', 'i', 1);
        names.where(1, 0, 9, 'g', 3);
        names.run(4);
        names.watchName(0, 0, 'a');
        is("another name", names.run(50), 9);
        says("Returns the number of the watch.");
        is("the second", names.watch(5), 1);
        names.jump(0, 2);
        is("the third", names.watchName(0, 0, 'a'), 2);
        is("the fourth", names.watchName(0, 0, 'a'), 3);
    }

    /**
     * The thread is in the function 1, with its own slot 0 above that of the function 0, both named v: the first one
     * becomes 5, and then that of the function 0, behind the return, 6.
     */
    private static Unwindlens slots() {
        Unwindlens x = new Unwindlens();
        Sample.code(x, "e 0 1; k 0 1; c 0 6; s 0 0; h 0 0; e 0 1; c 0 5; s 0 0; x 0 0; r 0 0");
        x.function(0, 4);
        x.function(5, 9);
        x.rule(6, 'i');
        x.scope(0, 9);
        x.variable(0, 'v', 'i', 1);
        x.where(0, 0, 9, 's', 0);
        x.thread(0);
        x.run(3);
        return x;
    }

    private static void watchNameRefused() {
        says("Throws `IndexOutOfBoundsException` if there is no such thread or frame");
        Unwindlens x = Sample.named();
        x.run(4);
        for (int thread : new int[] {-1, 1, 2, 3, MIN, MAX}) {
            fails("thread " + thread, INDEX, x, () -> x.watchName(thread, 0, 'x'));
        }
        for (int frame : new int[] {-1, 2, 3, MIN, MAX}) {
            fails("frame " + frame, INDEX, x, () -> x.watchName(0, frame, 'x'));
        }
        fails("nor a letter", INDEX, x, () -> x.watchName(0, 2, 'X'));
        says("Throws `IllegalArgumentException` if it is no small letter");
        for (char letter : NO_LETTERS) {
            fails("sign " + (int) letter, ARGUMENT, x, () -> x.watchName(0, 0, letter));
        }
        fails("no '-' either", ARGUMENT, x, () -> x.watchName(0, 0, '-'));
        says("Throws `NoSuchElementException` if there is no such name");
        fails("never told", ELEMENT, x, () -> x.watchName(0, 0, 'q'));
        fails("not at this frame", ELEMENT, x, () -> x.watchName(0, 1, 'x'));
        says("Throws `UnsupportedOperationException` if it is in no slots or cells");
        x.variable(0, 'y', 'i', 1);
        fails("nowhere", UNSUPPORTED, x, () -> x.watchName(0, 0, 'y'));
        x.where(1, 0, 9, 'r', 0);
        fails("in a register", UNSUPPORTED, x, () -> x.watchName(0, 0, 'y'));
        x.where(1, 0, 9, '#', 0);
        fails("a number itself", UNSUPPORTED, x, () -> x.watchName(0, 0, 'y'));
        x.where(1, 0, 9, 's', 2);
        fails("in a slot that is not there", UNSUPPORTED, x, () -> x.watchName(0, 0, 'y'));
        x.where(1, 0, 9, 's', 1);
        is("in a slot", x.watchName(0, 0, 'y'), 0);
        x.where(1, 0, 9, 'g', 15);
        is("in a cell", x.watchName(0, 0, 'y'), 1);
        says("Throws `IllegalStateException` if there are 4");
        x.watch(1);
        x.watch(1);
        fails("the fifth", STATE, x, () -> x.watchName(0, 0, 'y'));
        fails("the fifth in a slot", STATE, x, () -> x.watchName(0, 0, 'x'));
        x.run(500);
        x.thread(0);
        x.run(3);
        fails("the fifth, though one ended", STATE, x, () -> x.watchName(1, 0, 'x'));
    }

    private static void run() throws Exception {
        DOC.promise(32);
        says("Runs.");
        Unwindlens x = Sample.base();
        x.run(500);
        is("to the end", x.state(0), 'd');
        is("what it does", x.cell(3), 7);
        is("its steps", x.time(), 14);
        says("- `steps`: how many steps at most, 1 to 500");
        for (int steps = 1; steps <= 500; steps++) {
            Unwindlens y = loop();
            is("steps", y.run(steps), steps);
            is("no more", y.time(), steps);
        }
        says("Returns how many are made.");
        Unwindlens z = Sample.base();
        z.stop(11);
        is("to a hit", z.run(50), 1);
        is("to the end", z.run(50), 13);
        is("none", z.run(50), 0);
        is("time", z.time(), 14);
        is("without threads", Sample.functions().run(500), 0);
        says("Throws `IllegalArgumentException` if a number is out of range");
        for (int steps : new int[] {0, -1, 501, 502, 1000, MIN, MAX}) {
            fails(steps + " steps", ARGUMENT, x, () -> x.run(steps));
            fails(steps + " steps without threads", ARGUMENT, new Unwindlens(), () -> new Unwindlens().run(steps));
        }
        is("why the last one ended stays", x.reason(), 'd');
    }

    private static void stepLine() throws Exception {
        DOC.promise(33);
        says("Steps by lines.");
        Unwindlens x = lined();
        is("to a line", x.stepLine(0, 'i'), 1);
        is("its place", x.frame(0, 0, 'p'), 11);
        is("its line", x.frame(0, 0, 'l'), 5);
        says("- `thread`: the thread");
        x.thread(1);
        is("thread 1", x.stepLine(1, 'i'), 1);
        is("went", x.frame(1, 0, 'p'), 11);
        is("thread 0 stands", x.frame(0, 0, 'p'), 11);
        x.hold(0, true);
        is("also as the other one is held", x.stepLine(1, 'i'), 2);
        says("- `way`: 'i', 'o' or 'u'");
        int[] steps = {2, 13, 13};
        for (int i = 0; i < 3; i++) {
            Unwindlens y = lined();
            y.run(1);
            is("way", y.stepLine(0, "iou".charAt(i)), steps[i]);
        }
        says("Returns how many steps are made.");
        Unwindlens z = lined();
        z.run(4);
        is("into", z.stepLine(0, 'i'), 2);
        is("out", z.stepLine(0, 'u'), 6);
        is("to the end", z.stepLine(0, 'o'), 2);
        is("the time", z.time(), 14);
        Unwindlens many = Sample.thread("c 3 1; j 3 0");
        is("at most", many.stepLine(0, 'o'), 200);
        many.stop(1);
        is("to a hit", many.stepLine(0, 'o'), 1);
    }

    private static void stepLineRefused() {
        says("Throws `IndexOutOfBoundsException` if there is no such thread");
        Unwindlens x = lined();
        for (int thread : new int[] {-1, 1, 2, 3, MIN, MAX}) {
            fails("thread " + thread, INDEX, x, () -> x.stepLine(thread, 'i'));
        }
        fails("nor a way", INDEX, x, () -> x.stepLine(1, 'q'));
        says("Throws `IllegalArgumentException` if there is no such way");
        for (int sign = 0; sign < 256; sign++) {
            char way = (char) sign;
            if ("iou".indexOf(way) < 0) {
                fails("sign " + sign, ARGUMENT, x, () -> x.stepLine(0, way));
            }
        }
        fails("one that goes round to i", ARGUMENT, x, () -> x.stepLine(0, (char) (256 + 'i')));
        says("Throws `UnsupportedOperationException` if the thread is not ready, or is held");
        x.hold(0, true);
        for (char way : "iou".toCharArray()) {
            fails("held: " + way, UNSUPPORTED, x, () -> x.stepLine(0, way));
        }
        fails("held, no way", ARGUMENT, x, () -> x.stepLine(0, 'q'));
        x.hold(0, false);
        x.run(500);
        for (char way : "iou".toCharArray()) {
            fails("done: " + way, UNSUPPORTED, x, () -> x.stepLine(0, way));
        }
        Unwindlens fault = Sample.thread("x 0 0");
        fault.run(1);
        fails("a fault", UNSUPPORTED, fault, () -> fault.stepLine(0, 'i'));
        is("why the last run ended stays", fault.reason(), 'n');
    }

    private static void reason() throws Exception {
        DOC.promise(34);
        says("Returns why the last run, or step by lines, ended.");
        Unwindlens x = lined();
        x.stop(11);
        x.run(50);
        is("the run", x.reason(), 'b');
        is("asked again", x.reason(), 'b');
        x.stepLine(0, 'i');
        is("the step by lines", x.reason(), 'n');
        x.run(500);
        is("the last one", x.reason(), 'd');
        x.back(3);
        x.jump(0, 12);
        x.call(0, 0, 1);
        is("not what came behind", x.reason(), 'd');
        says("Returns 'b', 'w', 'e', 'd' or 'n', as all steps are made or it is there;");
        Unwindlens y = Sample.named();
        y.stop(7);
        y.run(4);
        y.watchName(0, 0, 'x');
        StringBuilder reasons = new StringBuilder();
        reasons.append(y.reason());
        for (int runs = 0; runs < 4; runs++) {
            y.run(500);
            reasons.append(y.reason());
        }
        DOC.is("each", reasons.toString(), "nwbed");
        y.thread(1);
        y.line(11, 1);
        y.stepLine(1, 'i');
        is("it is there", y.reason(), 'n');
        Unwindlens many = Sample.thread("c 3 1; j 3 0");
        many.stepLine(0, 'i');
        is("all 200 are made", many.reason(), 'n');
        says("'-' at first.");
        Unwindlens first = Sample.base();
        is("at first", first.reason(), '-');
        first.jump(0, 0);
        first.call(0, 0, 0);
        is("without a run still", first.reason(), '-');
    }

    private static void which() throws Exception {
        DOC.promise(35);
        says("Returns which breakpoint or watch ended it.");
        Unwindlens x = Sample.named();
        x.stop(13);
        x.stop(7);
        x.watch(9);
        x.run(4);
        x.watchName(0, 0, 'x');
        x.run(500);
        is("the watch that changed", x.which(), 1);
        is("by its reason", x.reason(), 'w');
        says("Returns the number.");
        x.run(500);
        is("a breakpoint", x.which(), 1);
        is("by its reason", x.reason(), 'b');
        x.run(500);
        is("the watch that ended", x.which(), 1);
        is("by its reason", x.reason(), 'e');
        x.run(500);
        is("breakpoint 0", x.which(), 0);
        is("asked again", x.which(), 0);
        is("by its reason", x.reason(), 'b');
        x.back(3);
        is("behind going back", x.which(), 0);
        says("Throws `NoSuchElementException` if none did");
        Unwindlens y = Sample.base();
        fails("at first", ELEMENT, y, () -> y.which());
        y.stop(11);
        y.run(1);
        fails("all steps were made", ELEMENT, y, () -> y.which());
        y.run(1);
        is("one did", y.which(), 0);
        y.run(500);
        fails("none can go", ELEMENT, y, () -> y.which());
        y.run(1);
        fails("none could go", ELEMENT, y, () -> y.which());
        Unwindlens z = lined();
        z.stop(10);
        z.run(1);
        z.stepLine(0, 'i');
        fails("it is there", ELEMENT, z, () -> z.which());
    }

    private static void back() throws Exception {
        DOC.promise(36);
        says("Goes back.");
        Unwindlens x = Sample.base();
        x.run(5);
        long sum = x.checksum();
        x.run(9);
        x.back(9);
        is("sum", x.checksum(), sum);
        is("state", x.state(0), 'r');
        says("- `steps`: how many steps, 1 to 1000");
        Unwindlens one = loop();
        one.run(500);
        one.run(499);
        sum = one.checksum();
        one.run(1);
        one.back(1);
        is("1", one.checksum(), sum);
        one.run(1);
        for (int steps : new int[] {2, 499, 500, 999, 1000}) {
            Unwindlens y = loop();
            y.run(500);
            y.run(500);
            is("steps", y.back(steps), 1000 - steps);
        }
        says("Returns the time then.");
        Unwindlens z = loop();
        for (int runs = 0; runs < 5; runs++) {
            z.run(500);
        }
        is("the time", z.back(500), 2000);
        is("as it is told", z.time(), 2000);
        says("Throws `IllegalArgumentException` if a number is out of range");
        for (int steps : new int[] {0, -1, 1001, MIN, MAX}) {
            fails(steps + " steps", ARGUMENT, one, () -> one.back(steps));
            fails(steps + " steps of none", ARGUMENT, new Unwindlens(), () -> new Unwindlens().back(steps));
        }
        says("Throws `UnsupportedOperationException` if so many are not kept");
        Unwindlens few = loop();
        fails("none", UNSUPPORTED, few, () -> few.back(1));
        few.run(3);
        for (int steps : new int[] {4, 5, 1000}) {
            fails(steps + " of three", UNSUPPORTED, few, () -> few.back(steps));
        }
        is("two of three", few.back(2), 1);
        fails("two of one", UNSUPPORTED, few, () -> few.back(2));
        is("one of one", few.back(1), 0);
        fails("one of none", UNSUPPORTED, few, () -> few.back(1));
        z.run(500);
        z.run(1);
        fails("those ahead of the 2001st", UNSUPPORTED, z, () -> z.back(502));
        is("all behind it", z.back(501), 2000);
    }

    private static void backTo() throws Exception {
        DOC.promise(37);
        says("Goes back to a breakpoint.");
        Unwindlens x = Sample.named();
        x.run(9);
        long sum = x.checksum();
        x.run(5);
        x.stop(7);
        x.backTo();
        is("to it", x.frame(0, 0, 'p'), 7);
        is("sum", x.checksum(), sum);
        is("no hit by that", x.hits(0), 0);
        is("but then", x.run(50), 0);
        says("Returns how many steps back.");
        Unwindlens y = Sample.base();
        y.run(14);
        y.stop(13);
        y.stop(11);
        y.stop(10);
        int[] steps = {1, 12, 1};
        int[] times = {13, 1, 0};
        for (int i = 0; i < 3; i++) {
            is("steps", y.backTo(), steps[i]);
            is("the time then", y.time(), times[i]);
        }
        says("Throws `NoSuchElementException` if there is no such time kept");
        fails("at the first time that is kept", ELEMENT, y, () -> y.backTo());
        Unwindlens z = Sample.base();
        z.run(14);
        fails("without a breakpoint", ELEMENT, z, () -> z.backTo());
        z.stop(10);
        z.pass(0, -1);
        fails("one that is off", ELEMENT, z, () -> z.backTo());
        z.pass(0, 0);
        z.when(0, 'x', '=', 0);
        fails("one whose condition does not hold", ELEMENT, z, () -> z.backTo());
        z.when(0, '-', '=', 0);
        z.patch(0, 'e', 0, 2);
        fails("nothing is kept", ELEMENT, z, () -> z.backTo());
        Unwindlens later = loop();
        later.stop(0);
        later.pass(0, 9);
        later.run(500);
        later.run(500);
        is("the first of 1000", later.backTo(), 1000);
        later.run(500);
        later.run(500);
        later.run(1);
        fails("ahead of the 1001st", ELEMENT, later, () -> later.backTo());
    }

    private static void set() throws Exception {
        DOC.promise(38);
        says("Sets a word of a variable, by hand.");
        Unwindlens x = slots();
        x.stop(6);
        x.run(50);
        x.set(0, 0, 'v', 0, 41);
        is("set", x.value(0, 0, 'v', 0), 41);
        fails("nothing is kept then", UNSUPPORTED, x, () -> x.back(1));
        is("a hit again", x.run(50), 0);
        says("- `thread`: the thread");
        x.thread(1);
        x.hold(0, true);
        x.run(1);
        x.set(1, 0, 'v', 0, 42);
        is("of the thread 1", x.value(1, 0, 'v', 0), 42);
        is("not of the thread 0", x.value(0, 0, 'v', 0), 41);
        says("- `frame`: the frame, from 0");
        x.set(0, 1, 'v', 0, 43);
        is("of the frame 1", x.value(0, 1, 'v', 0), 43);
        is("not of the frame 0", x.value(0, 0, 'v', 0), 41);
        says("- `letter`: the name");
        x.variable(0, 'w', 'i', 4);
        x.where(1, 0, 9, 'g', 12);
        x.set(0, 0, 'w', 0, 44);
        is("another one", x.cell(12), 44);
        is("not v", x.value(0, 0, 'v', 0), 41);
        says("- `index`: the index of the word");
        for (int index = 1; index < 4; index++) {
            x.set(0, 0, 'w', index, 44 + index);
        }
        for (int index = 0; index < 4; index++) {
            is("word " + index, x.cell(12 + index), 44 + index);
        }
        says("- `word`: the word");
        for (int word : new int[] {MIN, -1, 0, MAX}) {
            x.set(0, 0, 'w', 3, word);
            is("any", x.cell(15), word);
        }
        x.variable(0, 'r', 'i', 1);
        x.where(2, 0, 9, 'r', 3);
        x.set(0, 0, 'r', 0, 77);
        is("in a register", x.register(0, 3), 77);
        setAlone();
        says("Returns the word before.");
        is("of a register", x.set(0, 0, 'r', 0, 78), 77);
        is("of a slot", x.set(0, 0, 'v', 0, 1), 41);
        is("of a cell", x.set(0, 0, 'w', 2, 1), 46);
        is("set again", x.set(0, 0, 'w', 2, 1), 1);
    }

    /** Registers, slots and cells of the same numbers are set, and nothing else becomes another one. */
    private static void setAlone() {
        for (int number = 0; number < 4; number++) {
            Unwindlens x = Sample.thread("e 0 4; h 0 0");
            x.scope(0, 1);
            x.variable(0, 'v', 'i', 1);
            x.run(1);
            int[] registers = new int[4];
            int[] words = new int[5];
            Whole due = new Whole().cell(number, 93);
            x.where(0, 0, 1, 'r', number);
            x.set(0, 0, 'v', 0, registers[number] = 91);
            x.where(0, 0, 1, 's', number);
            x.set(0, 0, 'v', 0, words[number + 1] = 92);
            x.where(0, 0, 1, 'g', number);
            x.set(0, 0, 'v', 0, 93);
            is("no other word", x.checksum(), due.thread(1, 1, registers, 'r', words).sum());
        }
    }

    private static void setRefused() {
        says("Throws `IndexOutOfBoundsException` if there is no such thread or frame, or the variable has no such word");
        Unwindlens x = slots();
        for (int number : new int[] {-1, 3, MIN, MAX}) {
            fails("thread " + number, INDEX, x, () -> x.set(number, 0, 'v', 0, 5));
            fails("frame " + number, INDEX, x, () -> x.set(0, number, 'v', 0, 5));
            fails("word " + number, INDEX, x, () -> x.set(0, 0, 'v', number, 5));
        }
        fails("thread 1", INDEX, x, () -> x.set(1, 0, 'v', 0, 5));
        fails("frame 2", INDEX, x, () -> x.set(0, 2, 'v', 0, 5));
        fails("word 1 of one", INDEX, x, () -> x.set(0, 0, 'v', 1, 5));
        x.variable(0, 'w', 'i', 4);
        fails("word 4 of four that are gone", INDEX, x, () -> x.set(0, 0, 'w', 4, 5));
        x.variable(0, 'n', 'i', 1);
        x.where(2, 0, 9, '#', 6);
        fails("word 1 of a number", INDEX, x, () -> x.set(0, 0, 'n', 1, 5));
        says("Throws `IllegalArgumentException` if it is no small letter");
        for (char letter : NO_LETTERS) {
            fails("sign " + (int) letter, ARGUMENT, x, () -> x.set(0, 0, letter, 0, 5));
        }
        says("Throws `NoSuchElementException` if there is no such name, or it is gone");
        fails("never told", ELEMENT, x, () -> x.set(0, 0, 'q', 0, 5));
        fails("nor a word of it", ELEMENT, x, () -> x.set(0, 0, 'q', 9, 5));
        fails("gone", ELEMENT, x, () -> x.set(0, 0, 'w', 3, 5));
        x.where(1, 0, 9, '#', 6);
        fails("gone, as it is several words in a number", ELEMENT, x, () -> x.set(0, 0, 'w', 0, 5));
        says("Throws `UnsupportedOperationException` if it is a number itself");
        fails("a number", UNSUPPORTED, x, () -> x.set(0, 0, 'n', 0, 5));
        fails("also to what it is", UNSUPPORTED, x, () -> x.set(0, 0, 'n', 0, 6));
        is("it is as it was", x.value(0, 0, 'n', 0), 6);
        is("what is kept stays", x.back(3), 0);
    }

    private static void jump() throws Exception {
        DOC.promise(39);
        says("Puts a thread to a place, by hand.");
        Unwindlens x = Sample.base();
        x.stop(10);
        x.run(50);
        x.run(2);
        x.jump(0, 10);
        is("there", x.frame(0, 0, 'p'), 10);
        fails("nothing is kept then", UNSUPPORTED, x, () -> x.back(1));
        is("a hit again", x.run(50), 0);
        DOC.is("the stack stays", x.meanStack(), 1.0);
        is("the register stays", x.register(0, 0), 5);
        is("no step", x.time(), 2);
        says("- `thread`: the thread");
        x.thread(1);
        x.jump(1, 3);
        is("thread 1", x.frame(1, 0, 'p'), 3);
        is("not thread 0", x.frame(0, 0, 'p'), 10);
        x.hold(1, true);
        x.jump(1, 4);
        is("one that is held", x.frame(1, 0, 'p'), 4);
        says("- `place`: the place");
        for (int place = 0; place <= 13; place++) {
            x.jump(0, place);
            is("place " + place, x.frame(0, 0, 'p'), place);
        }
        says("Returns the place before.");
        int before = 13;
        for (int place : new int[] {0, 13, 13, 5}) {
            is("before", x.jump(0, place), before);
            before = place;
        }
        Unwindlens far = Lab.stack(0, MIN);
        Lab.at(far, 5);
        is("also one without an instruction", far.jump(0, 0), MIN);
    }

    private static void jumpRefused() {
        says("Throws `IndexOutOfBoundsException` if there is no such thread or place");
        Unwindlens x = Sample.base();
        x.run(3);
        for (int thread : new int[] {-1, 1, 2, 3, MIN, MAX}) {
            fails("thread " + thread, INDEX, x, () -> x.jump(thread, 0));
        }
        for (int place : new int[] {-1, 14, 59, 60, MIN, MAX}) {
            fails("place " + place, INDEX, x, () -> x.jump(0, place));
        }
        is("what is kept stays", x.back(3), 0);
        says("Throws `UnsupportedOperationException` if the thread is not ready");
        x.run(500);
        fails("done", UNSUPPORTED, x, () -> x.jump(0, 0));
        fails("also to its own place", UNSUPPORTED, x, () -> x.jump(0, 13));
        Unwindlens fault = Sample.thread("x 0 0");
        fault.run(1);
        fails("a fault", UNSUPPORTED, fault, () -> fault.jump(0, 0));
        fault.back(1);
        is("ready again", fault.jump(0, 0), 0);
    }

    /** The base program with a function 2 that puts 2 times the register 0 into the cell 1, and a 'h' as function 3. */
    private static Unwindlens callable() {
        Unwindlens x = Sample.base();
        Sample.code(x, "+ 0 0; p 0 1; r 0 0; h 0 0");
        x.function(14, 16);
        x.function(17, 17);
        x.stop(11);
        x.run(50);
        return x;
    }

    private static void call() throws Exception {
        DOC.promise(40);
        says("Calls a function, by hand.");
        Unwindlens x = callable();
        x.call(0, 2, 4);
        is("what it does", x.cell(1), 8);
        is("the place stays", x.frame(0, 0, 'p'), 11);
        fails("nothing is kept then", UNSUPPORTED, x, () -> x.back(1));
        is("a hit again", x.run(50), 0);
        says("- `thread`: the thread");
        x.pass(0, -1);
        x.thread(1);
        is("called by the thread 1", x.call(1, 2, 5), 10);
        is("thread 0 stands", x.frame(0, 0, 'p'), 11);
        x.run(1);
        is("thread 1 went last, so 0 is the next", x.frame(0, 0, 'p'), 0);
        is("thread 1 stands", x.frame(1, 0, 'p'), 10);
        x.hold(1, true);
        is("one that is held", x.call(1, 2, 6), 12);
        says("- `function`: the function");
        is("function 0", x.call(1, 0, 5), 7);
        is("function 2", x.call(1, 2, 5), 10);
        says("- `word`: the register 0 at first");
        for (int word : new int[] {MIN, -1, 0, 7, MAX}) {
            is("any", x.call(0, 0, word), word + 2);
        }
        says("Returns the register 0 as it returns.");
        is("2 times", x.call(0, 2, 21), 42);
        is("its register 0 is as it was", x.register(0, 0), 5);
    }

    private static void callRefused() {
        says("Throws `IndexOutOfBoundsException` if there is no such thread or function");
        Unwindlens x = callable();
        for (int thread : new int[] {-1, 1, 2, 3, MIN, MAX}) {
            fails("thread " + thread, INDEX, x, () -> x.call(thread, 2, 0));
        }
        for (int function : new int[] {-1, 4, 5, 6, MIN, MAX}) {
            fails("function " + function, INDEX, x, () -> x.call(0, function, 0));
        }
        says("Throws `UnsupportedOperationException` if the thread is not ready,");
        Unwindlens done = callable();
        done.run(500);
        fails("done", UNSUPPORTED, done, () -> done.call(0, 2, 0));
        fails("done, no function", INDEX, done, () -> done.call(0, 4, 0));
        Unwindlens fault = Sample.thread("x 0 0");
        fault.code('r', 0, 0);
        fault.function(1, 1);
        fault.run(1);
        fails("a fault", UNSUPPORTED, fault, () -> fault.call(0, 1, 0));
        says("or the function does not return so");
        fails("it ends the thread", UNSUPPORTED, x, () -> x.call(0, 3, 0));
        x.patch(16, 'x', 0, 0);
        fails("a fault in it", UNSUPPORTED, x, () -> x.call(0, 2, 0));
        x.patch(16, 'n', 0, 0);
        fails("it goes on behind its last place, to an end", UNSUPPORTED, x, () -> x.call(0, 2, 0));
        x.patch(17, 'r', 0, 0);
        is("it goes on behind its last place, and returns", x.call(0, 2, 1), 2);
        x.patch(17, 'j', 3, 14);
        fails("it goes on to no instruction", UNSUPPORTED, x, () -> x.call(0, 2, 0));
        x.patch(14, 'c', 3, 1);
        fails("it does not end", UNSUPPORTED, x, () -> x.call(0, 2, 0));
        is("the cell is as it was", x.cell(1), 2);
    }

    private static void doneShare() throws Exception {
        DOC.promise(41);
        says("Returns the share of threads that are done.");
        Unwindlens x = Sample.base();
        DOC.is("none", x.doneShare(), 0.0f);
        x.run(500);
        DOC.is("all", x.doneShare(), 1.0f);
        says("Returns their number divided by that of all, both converted to float.");
        x.thread(1);
        DOC.is("a half", x.doneShare(), 0.5f);
        x.thread(1);
        DOC.is("a third", x.doneShare(), 1.0f / 3.0f);
        x.hold(2, true);
        x.run(500);
        DOC.is("two thirds", x.doneShare(), 2.0f / 3.0f);
        x.hold(2, false);
        x.jump(2, 8);
        x.run(1);
        is("a fault", x.state(2), 'f');
        DOC.is("one with a fault is not done", x.doneShare(), 2.0f / 3.0f);
        says("Throws `ArithmeticException` if there are none");
        fails("a new object", ARITHMETIC, new Unwindlens(), () -> new Unwindlens().doneShare());
        Unwindlens y = Sample.functions();
        fails("functions alone", ARITHMETIC, y, () -> y.doneShare());
    }

    private static void meanStack() throws Exception {
        DOC.promise(42);
        says("Returns the mean of words on the stacks of threads.");
        Unwindlens x = Sample.thread("k 0 0");
        for (int words = 0; words <= 40; words++) {
            DOC.is("of one thread", x.meanStack(), (double) words);
            x.run(1);
        }
        says("Returns the sum divided by how many threads there are, both converted to double.");
        x.thread(0);
        DOC.is("40 and 0", x.meanStack(), 20.0);
        x.thread(0);
        DOC.is("a third of 40", x.meanStack(), 40.0 / 3.0);
        x.run(1);
        DOC.is("a third of 41", x.meanStack(), 41.0 / 3.0);
        says("Throws `ArithmeticException` if there are none");
        fails("a new object", ARITHMETIC, new Unwindlens(), () -> new Unwindlens().meanStack());
        Unwindlens y = Sample.functions();
        fails("functions alone", ARITHMETIC, y, () -> y.meanStack());
    }

    private static void checksum() throws Exception {
        DOC.promise(43);
        says("Returns a sum over the target.");
        Unwindlens x = Sample.base();
        long first = x.checksum();
        x.stop(13);
        x.watch(3);
        x.line(10, 5);
        x.hold(0, true);
        is("not of breakpoints, watches, lines and holds", x.checksum(), first);
        x.hold(0, false);
        x.run(1);
        DOC.no("of registers and places", x.checksum() == first);
        says("Returns 7 at first,");
        long sum = 7;
        for (int cell = 0; cell < 16; cell++) {
            sum *= 31;
        }
        is("7 and 16 cells that are 0", new Unwindlens().checksum(), sum);
        says("then for each cell 31 times itself plus the word,");
        Unwindlens y = new Unwindlens();
        Whole cells = new Whole();
        for (int cell = 0; cell < 16; cell++) {
            y.code('c', 0, 1000 - 300 * cell);
            y.code('p', 0, cell);
            cells.cell(cell, 1000 - 300 * cell);
        }
        y.function(0, 31);
        y.thread(0);
        y.run(32);
        is("each cell", y.checksum(), cells.thread(32, 0, Whole.registers(-3500), 'r').sum());
        says("then for each thread likewise its place, its base, the size of its stack, its registers, the words of its"
                + " stack, and its state as a number.");
        Unwindlens z = Sample.thread("c 0 -7; c 1 8; c 2 -9; c 3 10; e 0 2; s 0 1; h 0 0");
        z.run(7);
        Whole due = new Whole();
        due.thread(6, 1, Whole.registers(-7, 8, -9, 10), 'd', 0, 0, -7);
        is("one that is done", z.checksum(), due.sum());
        z.thread(0);
        z.run(6);
        due.thread(6, 1, Whole.registers(-7, 8, -9, 10), 'r', 0, 0, -7);
        is("one that is ready behind it", z.checksum(), due.sum());
        z.thread(0);
        z.patch(0, 'x', 0, 0);
        z.hold(1, true);
        z.run(1);
        due.thread(0, 0, Whole.registers(), 'f');
        is("one with a fault at last", z.checksum(), due.sum());
    }

    private static void isTrue() throws Exception {
        DOC.promise(44);
        says("Checks that going back through all that is kept and forth again leads to the same sum,");
        Unwindlens x = loop();
        DOC.yes("nothing is kept", x.isTrue());
        x.thread(0);
        x.thread(0);
        for (int runs = 0; runs < 7; runs++) {
            x.run(333);
            x.hold(runs % 3, true);
            long sum = x.checksum();
            int time = x.time();
            DOC.yes("behind runs and holds", x.isTrue());
            is("the sum stays", x.checksum(), sum);
            is("the time stays", x.time(), time);
            x.hold(runs % 3, false);
        }
        Unwindlens y = Sample.base();
        y.run(14);
        DOC.yes("done", y.isTrue());
        y.back(4);
        DOC.yes("behind going back", y.isTrue());
        y.jump(0, 3);
        DOC.yes("behind a change by hand", y.isTrue());
        y.run(1);
        y.code('n', 0, 0);
        DOC.yes("behind code", y.isTrue());
        y.run(1);
        y.thread(0);
        y.run(3);
        DOC.yes("behind a thread", y.isTrue());
        y.stop(1);
        y.watch(2);
        y.run(50);
        DOC.yes("at a hit", y.isTrue());
        int time = y.time();
        is("what is kept stays", y.back(1), time - 1);
        DOC.yes("new", new Unwindlens().isTrue());
    }

    private static void isTrueOfFrames() {
        says("and that the places of frames have instructions.");
        Unwindlens x = Sample.thread("n 0 0");
        x.thread(0);
        DOC.yes("at an instruction", x.isTrue());
        x.hold(0, true);
        x.run(1);
        DOC.no("thread 1 is at none", x.isTrue());
        x.back(1);
        DOC.yes("not any more", x.isTrue());
        x.hold(0, false);
        x.hold(1, true);
        x.run(2);
        is("a fault", x.fault(0), 'p');
        DOC.no("thread 0 is at none", x.isTrue());
        x.code('h', 0, 0);
        DOC.yes("it has one then", x.isTrue());
        says("Returns whether all of it holds.");
        Unwindlens y = Sample.thread("c 0 1; j 0 7; n 0 0");
        y.run(1);
        DOC.yes("holds", y.isTrue());
        y.run(1);
        DOC.no("does not hold", y.isTrue());
        is("going back does", y.back(2), 0);
        DOC.yes("holds again", y.isTrue());
    }
}
