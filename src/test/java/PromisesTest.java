import java.util.NoSuchElementException;

/** For each promise ordinary calls, the edges that the document names, and each exception in its order. */
public final class PromisesTest {
    private static final Class<IndexOutOfBoundsException> INDEX = IndexOutOfBoundsException.class;
    private static final Class<IllegalArgumentException> ARGUMENT = IllegalArgumentException.class;
    private static final Class<NoSuchElementException> ELEMENT = NoSuchElementException.class;
    private static final Class<UnsupportedOperationException> UNSUPPORTED = UnsupportedOperationException.class;
    private static final Class<IllegalStateException> STATE = IllegalStateException.class;
    private static final int MAX = Integer.MAX_VALUE;
    private static final int MIN = Integer.MIN_VALUE;
    private static final Checks CHECKS = new Checks();

    private PromisesTest() {
    }

    public static void main(String[] args) {
        newObject();
        code();
        codeKinds();
        faults();
        patch();
        function();
        line();
        rule();
        inlined();
        scope();
        variable();
        where();
        thread();
        state();
        fault();
        hold();
        register();
        cell();
        time();
        frames();
        framesByRules();
        frame();
        see();
        value();
        show();
        shown();
        stop();
        stopLine();
        stopIn();
        when();
        pass();
        hits();
        watch();
        watchName();
        watchesTogether();
        run();
        stepLineInto();
        stepLineOver();
        stepLineOut();
        stepLineStops();
        reason();
        which();
        back();
        backTo();
        set();
        jump();
        call();
        callThatDoesNotReturn();
        doneShare();
        meanStack();
        checksum();
        isTrue();
        CHECKS.end("PromisesTest");
    }

    private static void is(String what, long got, long due) {
        CHECKS.is(what, got, due);
    }

    private static void fails(String what, Class<? extends RuntimeException> due, Unwindlens x,
            java.util.concurrent.Callable<?> call) {
        CHECKS.fails(what, due, x, call);
    }

    private static void newObject() {
        Unwindlens x = new Unwindlens();
        is("time of a new one", x.time(), 0);
        is("reason of a new one", x.reason(), '-');
        is("cell of a new one", x.cell(15), 0);
        is("run of a new one", x.run(5), 0);
        is("reason without threads", x.reason(), 'd');
        fails("place of a new one", INDEX, x, () -> x.line(0, 1));
        fails("function of a new one", INDEX, x, () -> x.thread(0));
        fails("thread of a new one", INDEX, x, () -> x.state(0));
        fails("breakpoint of a new one", INDEX, x, () -> x.hits(0));
        fails("sign of a new one", INDEX, x, () -> x.shown(0));
        CHECKS.yes("a new one is true", x.isTrue());
    }

    private static void code() {
        Unwindlens x = new Unwindlens();
        for (int place = 0; place < 60; place++) {
            is("code", x.code("ncm+-*lgspjkexrh".charAt(place % 16), 3, place % 16 == 11 ? 5 : 3), place);
        }
        fails("61st", STATE, x, () -> x.code('n', 0, 0));
        fails("61st with a bad kind", ARGUMENT, x, () -> x.code('q', 0, 0));
        Unwindlens y = new Unwindlens();
        for (char kind : "cm+-*lgspj".toCharArray()) {
            fails("a too low for " + kind, ARGUMENT, y, () -> y.code(kind, -1, 0));
            fails("a too high for " + kind, ARGUMENT, y, () -> y.code(kind, 4, 0));
        }
        String kinds = "m+-*lsgpjke";
        int[] limits = {4, 4, 4, 4, 4, 4, 16, 16, 60, 6, 5};
        for (int i = 0; i < limits.length; i++) {
            char kind = kinds.charAt(i);
            int limit = limits[i];
            fails("b too low for " + kind, ARGUMENT, y, () -> y.code(kind, 0, -1));
            fails("b too high for " + kind, ARGUMENT, y, () -> y.code(kind, 0, limit));
            is("b highest for " + kind, y.code(kind, 0, limit - 1), i);
        }
        is("any number for c", y.code('c', 3, MIN), 11);
        is("a of no meaning for k", y.code('k', MAX, 0), 12);
        is("a of no meaning for e", y.code('e', -7, 0), 13);
        for (char kind : "nxrh".toCharArray()) {
            CHECKS.yes("nothing of meaning for " + kind, y.code(kind, MAX, MIN) > 13);
        }
        fails("no such kind", ARGUMENT, y, () -> y.code('N', 0, 0));
        fails("no kind", ARGUMENT, y, () -> y.code((char) 0, 0, 0));
        fails("far kind", ARGUMENT, y, () -> y.code((char) 65535, 0, 0));
    }

    private static void codeKinds() {
        Unwindlens x = Sample.thread("c 0 7; c 1 -3; m 2 0; + 0 1; - 2 1; * 1 2; p 1 15; g 3 15; n 0 0; j 3 11; h 0 0; c 0 9; h 0 0");
        is("arithmetic", x.run(8), 8);
        is("7 and -3", x.register(0, 0), 4);
        is("7 less -3", x.register(0, 2), 10);
        is("-3 times 10", x.register(0, 1), -30);
        is("cell 15", x.cell(15), -30);
        is("register of the cell", x.register(0, 3), -30);
        is("jump over", x.run(9), 4);
        is("behind the jump", x.register(0, 0), 9);
        Unwindlens y = Sample.thread("j 0 2; c 1 1; h 0 0");
        is("no jump with 0", y.run(9), 3);
        is("went on", y.register(0, 1), 1);
        Unwindlens z = Sample.thread("c 0 2147483647; c 1 1; + 0 1; c 2 -1; m 3 0; * 3 2; - 0 1; h 0 0");
        is("round", z.run(3), 3);
        is("sum goes round", z.register(0, 0), MIN);
        z.run(4);
        is("product goes round", z.register(0, 3), MIN);
        is("difference goes round", z.register(0, 0), MAX);
        Unwindlens s = Sample.thread("c 0 8; e 0 4; s 0 3; l 1 3; l 2 2; x 0 0; r 0 0");
        s.run(5);
        is("slot 3", s.register(0, 1), 8);
        is("slot 2", s.register(0, 2), 0);
        is("base", s.frame(0, 0, 'b'), 1);
        CHECKS.is("stack", s.meanStack(), 5.0);
        s.run(1);
        is("base taken off", s.frame(0, 0, 'b'), 0);
        CHECKS.is("stack taken off", s.meanStack(), 0.0);
        is("end by r", s.run(9), 1);
        is("done", s.state(0), 'd');
        is("place of the r", s.frame(0, 0, 'p'), 6);
    }

    private static void faultOf(String what, Unwindlens x, char fault, int place, double words) {
        x.run(500);
        is(what + " state", x.state(0), 'f');
        is(what, x.fault(0), fault);
        is(what + " place", x.frame(0, 0, 'p'), place);
        CHECKS.is(what + " words", x.meanStack(), words);
    }

    private static void faults() {
        faultOf("k over 40", Sample.thread("k 0 0"), 'o', 0, 40.0);
        faultOf("e over 40", Sample.thread("e 0 4; c 0 1; j 0 0"), 'o', 0, 40.0);
        faultOf("e of 3 over 40", Sample.thread("n 0 0; e 0 2; e 0 3; c 0 1; j 0 2"), 'o', 2, 39.0);
        faultOf("overflow ahead of no function", Sample.thread("e 0 4; e 0 4; e 0 4; e 0 4; e 0 4; e 0 4; e 0 4; e 0 4; k 0 5"),
                'o', 8, 40.0);
        faultOf("no function", Sample.thread("e 0 1; k 0 1"), 'f', 1, 2.0);
        faultOf("no slot to take", Sample.thread("e 0 1; l 0 1"), 'u', 1, 2.0);
        faultOf("no slot to put", Sample.thread("s 0 0"), 'u', 0, 0.0);
        faultOf("x without a word", Sample.thread("x 0 0"), 'u', 0, 0.0);
        faultOf("x with words above base 0", Sample.thread("k 0 0; x 0 0"), 'o', 0, 40.0);
        Unwindlens over = new Unwindlens();
        Sample.code(over, "k 0 1; h 0 0; x 0 0");
        over.function(0, 1);
        over.function(2, 2);
        over.thread(0);
        faultOf("x with base 0", over, 'u', 2, 1.0);
        faultOfBaseAboveSize();
        faultOf("behind the code", Sample.thread("n 0 0"), 'p', 1, 0.0);
        faultOf("jump to nothing", Sample.thread("c 0 1; j 0 59"), 'p', 59, 0.0);
        faultOf("return to a low place", Sample.thread("c 0 -5; e 0 1; s 0 0; r 0 0"), 'p', -5, 1.0);
        faultOf("e of 4 to 41", Sample.thread("e 0 4; e 0 4; e 0 4; e 0 4; e 0 4; e 0 4; e 0 4; e 0 0; e 0 4"),
                'o', 8, 36.0);
        faultOf("e of 0 to 41", Sample.thread("e 0 4; e 0 4; e 0 4; e 0 4; e 0 4; e 0 4; e 0 4; e 0 4; e 0 0"),
                'o', 8, 40.0);
        Unwindlens exact = Sample.thread("e 0 4; e 0 4; e 0 4; e 0 4; e 0 4; e 0 4; e 0 4; e 0 4; h 0 0");
        exact.run(20);
        is("40 words are no fault", exact.state(0), 'd');
        Unwindlens empty = Sample.thread("e 0 0; x 0 0; r 0 0");
        empty.run(20);
        is("x with the base at the size is no fault", empty.state(0), 'd');
    }

    /** An r takes off the word of the base, so that the base is above the size then. */
    private static void faultOfBaseAboveSize() {
        Unwindlens x = Sample.thread("n 0 0; e 0 0; r 0 0; x 0 0");
        x.run(3);
        x.jump(0, 3);
        is("base", x.frame(0, 0, 'b'), 1);
        is("a fault", x.run(9), 1);
        is("base above the size", x.fault(0), 'u');
        is("base still", x.frame(0, 0, 'b'), 1);
        is("time", x.time(), 4);
    }

    private static void patch() {
        Unwindlens x = Sample.base();
        x.run(3);
        is("patch", x.patch(5, '*', 2, 1), '+');
        is("patch again", x.patch(5, '*', 2, 1), '*');
        fails("back over a patch", UNSUPPORTED, x, () -> x.back(1));
        x.run(100);
        is("10 and not 7", x.cell(3), 10);
        fails("no place", INDEX, x, () -> x.patch(14, 'q', 0, 0));
        fails("low place", INDEX, x, () -> x.patch(-1, 'n', 0, 0));
        fails("no kind", ARGUMENT, x, () -> x.patch(13, 'q', 0, 0));
        fails("no number", ARGUMENT, x, () -> x.patch(13, 'e', 0, 5));
        is("not patched by those", x.patch(13, 'n', 0, 0), 'h');
        Unwindlens y = Sample.base();
        y.stop(10);
        is("stopped", y.run(5), 0);
        y.patch(0, 'e', 0, 3);
        is("stopped again behind a patch", y.run(5), 0);
        is("hits", y.hits(0), 2);
    }

    private static void function() {
        Unwindlens x = new Unwindlens();
        Sample.code(x, "n 0 0; n 0 0; n 0 0; n 0 0; n 0 0; n 0 0; n 0 0; n 0 0; n 0 0; n 0 0");
        is("first", x.function(2, 3), 0);
        is("one place", x.function(5, 5), 1);
        fails("no first place", INDEX, x, () -> x.function(-1, 0));
        fails("no last place", INDEX, x, () -> x.function(9, 10));
        fails("no place, and turned", INDEX, x, () -> x.function(10, 2));
        fails("turned", ARGUMENT, x, () -> x.function(4, 3));
        fails("turned within", ARGUMENT, x, () -> x.function(3, 2));
        fails("has another", UNSUPPORTED, x, () -> x.function(1, 4));
        fails("is another", UNSUPPORTED, x, () -> x.function(2, 3));
        fails("ends in another", UNSUPPORTED, x, () -> x.function(0, 2));
        fails("begins in another", UNSUPPORTED, x, () -> x.function(3, 4));
        is("call outside", x.inlined(7, 8, 0, 1), 0);
        fails("half of a call", UNSUPPORTED, x, () -> x.function(8, 9));
        fails("inside a call", UNSUPPORTED, x, () -> x.function(7, 7));
        is("all of a call", x.function(7, 8), 2);
        is("fourth", x.function(0, 0), 3);
        is("fifth", x.function(1, 1), 4);
        is("sixth", x.function(4, 4), 5);
        fails("seventh", STATE, x, () -> x.function(6, 6));
        fails("seventh over another", UNSUPPORTED, x, () -> x.function(5, 6));
        Unwindlens y = Sample.thread("n 0 0; n 0 0; n 0 0");
        y.code('n', 0, 0);
        y.run(1);
        y.function(3, 3);
        fails("a function ends what is kept", UNSUPPORTED, y, () -> y.back(1));
        y.run(1);
        y.code('n', 0, 0);
        fails("an instruction ends what is kept", UNSUPPORTED, y, () -> y.back(1));
        y.run(1);
        y.thread(1);
        fails("a thread ends what is kept", UNSUPPORTED, y, () -> y.back(1));
    }

    private static void line() {
        Unwindlens x = Sample.base();
        is("none", x.line(10, 99), -1);
        is("before", x.line(10, 0), 99);
        is("again", x.line(10, -1), 0);
        is("none again", x.line(10, 3), -1);
        is("shown", x.frame(0, 0, 'l'), 3);
        fails("no place", INDEX, x, () -> x.line(14, 100));
        fails("low place", INDEX, x, () -> x.line(-1, 0));
        fails("high line", ARGUMENT, x, () -> x.line(10, 100));
        fails("low line", ARGUMENT, x, () -> x.line(10, -2));
        x.run(1);
        x.line(10, 4);
        is("a line does not end what is kept", x.back(1), 0);
    }

    private static void rule() {
        Unwindlens x = new Unwindlens();
        Sample.code(x, "n 0 0; n 0 0; n 0 0; n 0 0; n 0 0; n 0 0; n 0 0");
        x.function(1, 3);
        x.function(4, 5);
        is("without", x.rule(2, 'i'), 'o');
        is("by the place ahead", x.rule(3, '-'), 'i');
        is("not ahead of it", x.rule(1, '-'), 'o');
        is("not in another function", x.rule(4, '-'), 'o');
        is("own", x.rule(2, '-'), 'i');
        is("none of its own any more", x.rule(2, '-'), 'o');
        is("outside", x.rule(0, 'i'), 'o');
        is("from outside the function", x.rule(1, 'i'), 'o');
        is("nearest", x.rule(2, 'o'), 'i');
        is("nearest ahead", x.rule(3, 'i'), 'o');
        is("outside told for it itself", x.rule(6, 'i'), 'o');
        is("own outside", x.rule(6, 'o'), 'i');
        fails("no place", INDEX, x, () -> x.rule(7, 'q'));
        fails("low place", INDEX, x, () -> x.rule(-1, 'i'));
        fails("no rule", ARGUMENT, x, () -> x.rule(3, 'I'));
        is("not told by those", x.rule(3, '-'), 'i');
    }

    private static void inlined() {
        Unwindlens x = new Unwindlens();
        Sample.code(x, "n 0 0; n 0 0; n 0 0; n 0 0; n 0 0; n 0 0; n 0 0; n 0 0; n 0 0; n 0 0; n 0 0; n 0 0");
        x.function(2, 9);
        fails("no first place", INDEX, x, () -> x.inlined(-1, 2, 0, 100));
        fails("no last place", INDEX, x, () -> x.inlined(2, 12, 0, 0));
        fails("no function", INDEX, x, () -> x.inlined(4, 3, 1, 100));
        fails("turned", ARGUMENT, x, () -> x.inlined(4, 3, 0, 0));
        fails("high line", ARGUMENT, x, () -> x.inlined(1, 3, 0, 100));
        fails("low line", ARGUMENT, x, () -> x.inlined(3, 3, 0, -1));
        fails("partly in a function ahead", UNSUPPORTED, x, () -> x.inlined(1, 2, 0, 0));
        fails("partly in a function behind", UNSUPPORTED, x, () -> x.inlined(9, 10, 0, 0));
        fails("around a function", UNSUPPORTED, x, () -> x.inlined(1, 10, 0, 0));
        is("all of the function", x.inlined(2, 9, 0, 0), 0);
        is("within", x.inlined(3, 6, 0, 99), 1);
        fails("the same places", UNSUPPORTED, x, () -> x.inlined(3, 6, 0, 1));
        fails("partly in another", UNSUPPORTED, x, () -> x.inlined(6, 7, 0, 1));
        fails("partly in another ahead", UNSUPPORTED, x, () -> x.inlined(2, 3, 0, 1));
        x.scope(4, 5);
        fails("partly in a scope", UNSUPPORTED, x, () -> x.inlined(5, 6, 0, 1));
        is("the same places as a scope", x.inlined(4, 5, 0, 2), 2);
        is("within a scope", x.inlined(4, 4, 0, 3), 3);
        is("apart", x.inlined(7, 8, 0, 4), 4);
        is("outside", x.inlined(10, 11, 0, 5), 5);
        fails("seventh", STATE, x, () -> x.inlined(0, 1, 0, 1));
        fails("seventh partly in another", UNSUPPORTED, x, () -> x.inlined(8, 9, 0, 1));
    }

    private static void scope() {
        Unwindlens x = Sample.base();
        is("first", x.scope(2, 6), 0);
        is("the same", x.scope(2, 6), 1);
        is("within", x.scope(3, 3), 2);
        is("around, over functions", x.scope(0, 11), 3);
        fails("no first place", INDEX, x, () -> x.scope(-1, 2));
        fails("no last place", INDEX, x, () -> x.scope(2, 14));
        fails("no place, turned", INDEX, x, () -> x.scope(14, 2));
        fails("turned", ARGUMENT, x, () -> x.scope(3, 2));
        fails("turned over one", ARGUMENT, x, () -> x.scope(7, 5));
        fails("partly in another", UNSUPPORTED, x, () -> x.scope(5, 7));
        fails("partly in another ahead", UNSUPPORTED, x, () -> x.scope(1, 2));
        x.inlined(4, 5, 0, 1);
        fails("partly in a call", UNSUPPORTED, x, () -> x.scope(5, 6));
        is("the same as a call", x.scope(4, 5), 4);
        is("within a call", x.scope(4, 4), 5);
        is("around a call", x.scope(4, 6), 6);
        for (int scope = 7; scope < 12; scope++) {
            is("more", x.scope(12, 13), scope);
        }
        fails("13th", STATE, x, () -> x.scope(12, 13));
        fails("13th partly in another", UNSUPPORTED, x, () -> x.scope(11, 12));
    }

    private static void variable() {
        Unwindlens x = Sample.base();
        x.scope(0, 9);
        is("first", x.variable(0, 'a', 'i', 1), 0);
        is("the same name", x.variable(0, 'a', 'b', 4), 1);
        is("last letter", x.variable(0, 'z', 'c', 2), 2);
        fails("no scope", INDEX, x, () -> x.variable(1, 'A', 'q', 0));
        fails("low scope", INDEX, x, () -> x.variable(-1, 'a', 'i', 1));
        fails("large letter", ARGUMENT, x, () -> x.variable(0, 'A', 'i', 1));
        fails("sign ahead of a", ARGUMENT, x, () -> x.variable(0, '`', 'i', 1));
        fails("sign behind z", ARGUMENT, x, () -> x.variable(0, '{', 'i', 1));
        fails("letter beyond", ARGUMENT, x, () -> x.variable(0, (char) 228, 'i', 1));
        fails("no kind", ARGUMENT, x, () -> x.variable(0, 'a', 'd', 1));
        fails("no words", ARGUMENT, x, () -> x.variable(0, 'a', 'i', 0));
        fails("5 words", ARGUMENT, x, () -> x.variable(0, 'a', 'i', 5));
        for (int variable = 3; variable < 20; variable++) {
            is("more", x.variable(0, 'b', 'i', 1), variable);
        }
        fails("21st", STATE, x, () -> x.variable(0, 'b', 'i', 1));
        fails("21st with a bad kind", ARGUMENT, x, () -> x.variable(0, 'b', 'j', 1));
    }

    private static void where() {
        Unwindlens x = Sample.base();
        x.scope(0, 9);
        x.scope(10, 13);
        x.variable(0, 'x', 'i', 1);
        x.variable(1, 'y', 'i', 1);
        is("first", x.where(0, 0, 9, 'r', 3), 1);
        is("of another", x.where(1, 10, 13, 's', 3), 2);
        is("cell", x.where(1, 10, 13, 'g', 15), 3);
        is("number", x.where(1, 11, 13, '#', MIN), 4);
        fails("no variable", INDEX, x, () -> x.where(2, 0, 9, 'r', 0));
        fails("low variable", INDEX, x, () -> x.where(-1, 0, 9, 'r', 0));
        fails("no first place", INDEX, x, () -> x.where(0, -1, 9, 'r', 9));
        fails("no last place", INDEX, x, () -> x.where(0, 9, 14, 'q', 0));
        fails("turned", ARGUMENT, x, () -> x.where(0, 9, 8, 'r', 0));
        fails("no kind", ARGUMENT, x, () -> x.where(0, 0, 9, 'c', 0));
        fails("high register", ARGUMENT, x, () -> x.where(0, 0, 9, 'r', 4));
        fails("low register", ARGUMENT, x, () -> x.where(0, 0, 9, 'r', -1));
        fails("high slot", ARGUMENT, x, () -> x.where(0, 0, 9, 's', 4));
        fails("low slot", ARGUMENT, x, () -> x.where(0, 0, 9, 's', -1));
        fails("high cell", ARGUMENT, x, () -> x.where(0, 0, 9, 'g', 16));
        fails("low cell", ARGUMENT, x, () -> x.where(0, 0, 9, 'g', -1));
        is("cell, the latest told for the place", x.see(0, 0, 'y'), 'v');
        x.run(1);
        is("number, the latest", x.value(0, 0, 'y', 0), MIN);
        for (int told = 5; told <= 24; told++) {
            is("more", x.where(1, 13, 13, '#', told), told);
        }
        fails("25th", STATE, x, () -> x.where(1, 13, 13, '#', 0));
        fails("25th turned", ARGUMENT, x, () -> x.where(1, 13, 12, '#', 0));
    }

    private static void thread() {
        Unwindlens x = Sample.base();
        x.run(1);
        is("second", x.thread(0), 1);
        is("first place", x.frame(1, 0, 'p'), 0);
        is("ready", x.state(1), 'r');
        fails("no function", INDEX, x, () -> x.thread(2));
        fails("low function", INDEX, x, () -> x.thread(-1));
        is("third", x.thread(1), 2);
        fails("fourth", STATE, x, () -> x.thread(0));
        fails("fourth without a function", INDEX, x, () -> x.thread(6));
        x.run(1);
        is("the one behind that which went", x.frame(1, 0, 'p'), 1);
        is("0 did not go", x.frame(0, 0, 'p'), 11);
        x.run(2);
        is("2 went", x.frame(2, 0, 'p'), 11);
        is("0 went then", x.frame(0, 0, 'p'), 0);
        x.hold(1, true);
        x.run(1);
        is("1 is held, so 2 goes", x.frame(2, 0, 'p'), 0);
    }

    private static void state() {
        Unwindlens x = Sample.base();
        x.thread(1);
        is("ready", x.state(0), 'r');
        x.hold(1, true);
        is("held is ready", x.state(1), 'r');
        x.run(100);
        is("done", x.state(0), 'd');
        x.hold(1, false);
        x.jump(1, 9);
        x.patch(9, 'x', 0, 0);
        x.run(1);
        is("stopped by a fault", x.state(1), 'f');
        fails("no thread", INDEX, x, () -> x.state(2));
        fails("low thread", INDEX, x, () -> x.state(-1));
    }

    private static void fault() {
        Unwindlens x = Sample.base();
        fails("none", ELEMENT, x, () -> x.fault(0));
        fails("no thread", INDEX, x, () -> x.fault(1));
        fails("low thread", INDEX, x, () -> x.fault(MIN));
        x.patch(11, 'k', 0, 5);
        x.run(2);
        is("no function", x.fault(0), 'f');
        x.back(1);
        fails("none ahead of it", ELEMENT, x, () -> x.fault(0));
        x.run(100);
        is("again", x.fault(0), 'f');
        is("no more steps", x.time(), 2);
    }

    private static void hold() {
        Unwindlens x = Sample.base();
        is("was not", x.hold(0, true) ? 1 : 0, 0);
        is("was", x.hold(0, true) ? 1 : 0, 1);
        is("does not go", x.run(5), 0);
        is("none can go", x.reason(), 'd');
        is("was held", x.hold(0, false) ? 1 : 0, 1);
        is("was let go", x.hold(0, false) ? 1 : 0, 0);
        is("goes", x.run(5), 5);
        x.hold(0, true);
        is("going back", x.back(2), 3);
        is("leaves holds", x.hold(0, true) ? 1 : 0, 1);
        x.hold(0, false);
        x.run(500);
        is("one that is done was not", x.hold(0, true) ? 1 : 0, 0);
        is("is held though it can not go", x.hold(0, true) ? 1 : 0, 1);
        x.back(1);
        is("so it does not go behind going back", x.run(1), 0);
        fails("no thread", INDEX, x, () -> x.hold(1, true));
        fails("low thread", INDEX, x, () -> x.hold(-1, true));
    }

    private static void register() {
        Unwindlens x = Sample.base();
        is("0 at first", x.register(0, 3), 0);
        x.run(5);
        is("register 0", x.register(0, 0), 5);
        is("register 1", x.register(0, 1), 2);
        fails("no thread", INDEX, x, () -> x.register(1, 0));
        fails("no register", INDEX, x, () -> x.register(0, 4));
        fails("low register", INDEX, x, () -> x.register(0, -1));
    }

    private static void cell() {
        Unwindlens x = Sample.base();
        x.run(100);
        is("cell 3", x.cell(3), 7);
        is("cell 0", x.cell(0), 0);
        is("cell 15", x.cell(15), 0);
        fails("no cell", INDEX, x, () -> x.cell(16));
        fails("low cell", INDEX, x, () -> x.cell(-1));
    }

    private static void time() {
        Unwindlens x = Sample.base();
        x.run(4);
        is("by steps", x.time(), 4);
        x.stepLine(0, 'u');
        is("by steps of lines", x.time(), 12);
        x.back(3);
        is("back", x.time(), 9);
        Unwindlens y = Sample.thread("x 0 0");
        is("a fault is a step", y.run(5), 1);
        is("also by a fault", y.time(), 1);
    }

    private static void frames() {
        Unwindlens x = Sample.base();
        is("one", x.frames(0), 1);
        x.run(2);
        is("by the rule o", x.frames(0), 2);
        x.run(1);
        is("by the rule i", x.frames(0), 2);
        x.inlined(1, 3, 1, 9);
        x.inlined(1, 1, 1, 8);
        is("inlined ones too", x.frames(0), 4);
        x.run(100);
        is("also if it is done", x.frames(0), 1);
        fails("no thread", INDEX, x, () -> x.frames(1));
        fails("low thread", INDEX, x, () -> x.frames(-1));
        Unwindlens y = Sample.thread("k 0 0");
        y.run(11);
        is("11 calls", y.frames(0), 12);
        y.run(5);
        is("at most 12", y.frames(0), 12);
        y.inlined(0, 0, 0, 7);
        is("24 with those that are inlined", y.frames(0), 24);
        is("the last one", y.frame(0, 23, 'i'), 0);
        is("the one ahead", y.frame(0, 22, 'i'), 1);
    }

    private static void framesByRules() {
        Unwindlens x = Sample.base();
        x.rule(12, 'i');
        x.run(3);
        is("base of the first", x.frame(0, 0, 'b'), 2);
        is("base of the next", x.frame(0, 1, 'b'), 0);
        is("place of the call", x.frame(0, 1, 'p'), 11);
        x.rule(11, 'i');
        is("no words are needed of a frame of the size 0", x.frames(0), 2);
        x.rule(1, 'o');
        is("the word below the size has no place", x.frames(0), 1);
        x.rule(1, 'i');
        x.jump(0, 0);
        is("with the rule o of its place", x.frames(0), 1);
        Unwindlens y = Sample.thread("c 0 99; e 0 1; s 0 0; h 0 0");
        y.run(9);
        is("no instruction there", y.frames(0), 1);
        Unwindlens z = Sample.thread("c 0 4; e 0 1; s 0 0; h 0 0");
        z.run(9);
        is("the word less 1", z.frame(0, 1, 'p'), 3);
        is("the same base by the rule o", z.frame(0, 1, 'b'), 1);
        is("then the base is no place", z.frames(0), 2);
        z.rule(3, 'i');
        is("no word 2 below the base", z.frames(0), 1);
        Unwindlens gone = new Unwindlens();
        Sample.code(gone, "n 0 0; k 0 1; h 0 0; e 0 0; r 0 0");
        gone.function(0, 2);
        gone.function(3, 4);
        gone.thread(0);
        gone.run(3);
        is("by the rule o", gone.frames(0), 1);
        gone.rule(0, 'i');
        gone.rule(4, 'i');
        is("both words are there", gone.frames(0), 2);
        gone.run(1);
        is("an r took the base off", gone.frame(0, 0, 'b'), 2);
        is("and went to its word", gone.frame(0, 0, 'p'), 0);
        is("no word 1 below the base", gone.frames(0), 1);
        framesOfSizeZero();
        Unwindlens low = Sample.thread("e 0 0; n 0 0; h 0 0");
        low.run(2);
        is("a word 0 is no place", low.frames(0), 1);
    }

    /** The frame behind the first one has the size 0, though the words that its rule i needs are on the stack. */
    private static void framesOfSizeZero() {
        Unwindlens x = Sample.thread("k 0 0; n 0 0; n 0 0; e 0 0; r 0 0; e 0 1; n 0 0");
        x.rule(0, 'i');
        x.run(2);
        for (int place : new int[] {3, 4, 4, 5}) {
            x.jump(0, place);
            x.run(1);
        }
        CHECKS.is("three words", x.meanStack(), 3.0);
        is("base of the first", x.frame(0, 0, 'b'), 2);
        is("base of the next", x.frame(0, 1, 'b'), 3);
        is("place of the next", x.frame(0, 1, 'p'), 0);
        is("none behind the size 0", x.frames(0), 2);
    }

    private static void frame() {
        Unwindlens x = Sample.base();
        x.line(3, 7);
        x.line(11, 20);
        x.run(5);
        is("function", x.frame(0, 0, 'f'), 0);
        is("place", x.frame(0, 0, 'p'), 3);
        is("line", x.frame(0, 0, 'l'), 7);
        is("not inlined", x.frame(0, 0, 'i'), 0);
        is("base", x.frame(0, 0, 'b'), 2);
        is("function behind", x.frame(0, 1, 'f'), 1);
        is("place behind", x.frame(0, 1, 'p'), 11);
        is("line behind", x.frame(0, 1, 'l'), 20);
        is("base behind", x.frame(0, 1, 'b'), 0);
        x.inlined(2, 4, 1, 50);
        x.inlined(3, 3, 1, 60);
        x.inlined(11, 12, 0, 70);
        is("innermost", x.frame(0, 0, 'l'), 7);
        is("its function", x.frame(0, 0, 'f'), 1);
        is("inlined", x.frame(0, 0, 'i'), 1);
        is("line of its call", x.frame(0, 1, 'l'), 60);
        is("inlined too", x.frame(0, 1, 'i'), 1);
        is("line of the outer call", x.frame(0, 2, 'l'), 50);
        is("its own", x.frame(0, 2, 'i'), 0);
        is("its own function", x.frame(0, 2, 'f'), 0);
        is("the same place", x.frame(0, 2, 'p'), 3);
        is("the same base", x.frame(0, 1, 'b'), 2);
        is("inlined behind", x.frame(0, 3, 'f'), 0);
        is("its line", x.frame(0, 3, 'l'), 20);
        is("behind that", x.frame(0, 4, 'l'), 70);
        fails("no frame", INDEX, x, () -> x.frame(0, 5, 'q'));
        fails("low frame", INDEX, x, () -> x.frame(0, -1, 'p'));
        fails("no thread", INDEX, x, () -> x.frame(1, 0, 'p'));
        fails("no thing", ARGUMENT, x, () -> x.frame(0, 0, 'q'));
        Unwindlens y = Sample.thread("n 0 0");
        y.run(1);
        is("no function", y.frame(0, 0, 'f'), -1);
        is("no line", y.frame(0, 0, 'l'), -1);
        is("place without an instruction", y.frame(0, 0, 'p'), 1);
    }

    private static void see() {
        Unwindlens x = Sample.named();
        is("not seen at another function", x.see(0, 0, 'x'), 'n');
        x.run(3);
        is("gone", x.see(0, 0, 'x'), 'g');
        x.run(1);
        is("there", x.see(0, 0, 'x'), 'v');
        is("no such name", x.see(0, 0, 'y'), 'n');
        is("not at the frame behind", x.see(0, 1, 'x'), 'n');
        fails("no frame", INDEX, x, () -> x.see(0, 2, 'X'));
        fails("no thread", INDEX, x, () -> x.see(1, 0, 'x'));
        fails("no letter", ARGUMENT, x, () -> x.see(0, 0, 'X'));
        seeHiding();
        seeInlined();
        seeGone();
    }

    private static void seeHiding() {
        Unwindlens x = Sample.base();
        x.scope(10, 13);
        x.scope(11, 12);
        x.scope(11, 12);
        x.scope(10, 12);
        for (int scope = 0; scope < 4; scope++) {
            x.variable(scope, 'x', 'i', 1);
            x.where(scope, 10, 13, '#', scope);
        }
        is("the inner one", x.value(0, 0, 'x', 0), 3);
        x.run(1);
        is("of two that are the same the later", x.value(0, 0, 'x', 0), 2);
        x.variable(2, 'x', 'i', 1);
        is("the latest told hides", x.see(0, 0, 'x'), 'g');
        x.variable(0, 'y', 'i', 1);
        x.where(5, 10, 13, '#', 77);
        is("not hidden", x.value(0, 0, 'y', 0), 77);
        x.jump(0, 13);
        is("the outer one", x.value(0, 0, 'x', 0), 0);
    }

    private static void seeInlined() {
        Unwindlens x = Sample.base();
        x.inlined(10, 12, 0, 1);
        x.scope(10, 12);
        x.scope(10, 11);
        x.scope(10, 13);
        for (int scope = 0; scope < 3; scope++) {
            x.variable(scope, (char) ('a' + scope), 'i', 1);
            x.where(scope, 10, 13, 'r', 0);
        }
        is("same places", x.see(0, 0, 'a'), 'v');
        is("inside", x.see(0, 0, 'b'), 'v');
        is("outside", x.see(0, 0, 'c'), 'n');
        is("not behind", x.see(0, 1, 'a'), 'n');
        is("around it behind", x.see(0, 1, 'c'), 'v');
        x.inlined(10, 11, 0, 1);
        is("a later call has the scope", x.see(0, 0, 'b'), 'v');
        is("and not that", x.see(0, 0, 'a'), 'n');
        is("which the next one has", x.see(0, 1, 'a'), 'v');
        is("and no more the inner one", x.see(0, 1, 'b'), 'n');
    }

    private static void seeGone() {
        Unwindlens x = Sample.base();
        x.scope(0, 13);
        String names = "abcdefgh";
        int[] words = {1, 2, 2, 2, 3, 1, 1, 2};
        char[] kinds = {'r', 'r', '#', 's', 's', 'g', 's', 'g'};
        int[] numbers = {0, 0, 5, 0, 0, 15, 1, 15};
        for (int i = 0; i < words.length; i++) {
            x.variable(0, names.charAt(i), 'i', words[i]);
            x.where(i, 0, 13, kinds[i], numbers[i]);
        }
        x.run(3);
        String first = "vggvgvvg";
        String behind = "gggggvgg";
        for (int i = 0; i < words.length; i++) {
            is("at the first frame " + names.charAt(i), x.see(0, 0, names.charAt(i)), first.charAt(i));
            is("behind it " + names.charAt(i), x.see(0, 1, names.charAt(i)), behind.charAt(i));
        }
        x.inlined(1, 1, 1, 3);
        is("a register in an inlined one", x.see(0, 0, 'a'), 'n');
        is("a register behind an inlined one", x.see(0, 1, 'a'), 'v');
        is("not behind the first", x.see(0, 2, 'a'), 'g');
    }

    private static void value() {
        Unwindlens x = Sample.named();
        x.run(4);
        is("number", x.value(0, 0, 'x', 0), 5);
        fails("no word", INDEX, x, () -> x.value(0, 0, 'x', 1));
        fails("low word", INDEX, x, () -> x.value(0, 0, 'x', -1));
        fails("no frame", INDEX, x, () -> x.value(0, 2, 'x', 0));
        fails("low thread", INDEX, x, () -> x.value(-1, 0, 'x', 0));
        fails("no letter", ARGUMENT, x, () -> x.value(0, 0, '-', 9));
        fails("no name", ELEMENT, x, () -> x.value(0, 0, 'q', 0));
        x.back(1);
        fails("gone", ELEMENT, x, () -> x.value(0, 0, 'x', 0));
        fails("gone, and no word", INDEX, x, () -> x.value(0, 0, 'x', 1));
        x.variable(0, 'w', 'i', 2);
        x.where(1, 0, 9, 's', 0);
        x.variable(0, 'g', 'i', 2);
        x.where(2, 0, 9, 'g', 14);
        x.run(7);
        is("word 0", x.value(0, 0, 'w', 0), 7);
        is("word 1", x.value(0, 0, 'w', 1), 2);
        x.set(0, 0, 'g', 1, 33);
        is("cell 15", x.value(0, 0, 'g', 1), 33);
        valueOfThreads();
    }

    private static void valueOfThreads() {
        Unwindlens x = Sample.named();
        x.variable(0, 'r', 'i', 1);
        x.where(1, 0, 9, 'r', 0);
        x.where(0, 0, 0, 's', 0);
        x.thread(1);
        x.run(4);
        is("the first word of a stack", x.value(1, 0, 'x', 0), 12);
        x.hold(0, true);
        x.run(7);
        is("register of thread 1", x.value(1, 0, 'r', 0), 5);
        is("slot of thread 1", x.value(1, 0, 'x', 0), 7);
        is("slot of thread 0", x.value(0, 0, 'x', 0), 12);
        is("set in thread 1", x.set(1, 0, 'x', 0, 9), 7);
        is("not in thread 0", x.value(0, 0, 'x', 0), 12);
        is("but there", x.value(1, 0, 'x', 0), 9);
    }

    private static Unwindlens shower(char kind, int words, int... cells) {
        Unwindlens x = Sample.base();
        x.scope(10, 13);
        x.variable(0, 'v', kind, words);
        x.where(0, 10, 12, 'g', 0);
        for (int index = 0; index < cells.length; index++) {
            x.set(0, 0, 'v', index, cells[index]);
        }
        return x;
    }

    private static void show() {
        CHECKS.is("number", Sample.shown(shower('i', 1, 42), 0, 0, 'v'), "42");
        CHECKS.is("0", Sample.shown(shower('i', 1, 0), 0, 0, 'v'), "0");
        CHECKS.is("lowest", Sample.shown(shower('i', 1, MIN), 0, 0, 'v'), "-2147483648");
        CHECKS.is("highest", Sample.shown(shower('i', 2, MAX, -10), 0, 0, 'v'), "{2147483647, -10}");
        CHECKS.is("truths", Sample.shown(shower('b', 3, 0, 1, -1), 0, 0, 'v'), "{false, true, true}");
        CHECKS.is("truth", Sample.shown(shower('b', 1, 2), 0, 0, 'v'), "true");
        CHECKS.is("characters", Sample.shown(shower('c', 4, 32, 126, 31, 127), 0, 0, 'v'), "{' ', '~', 31, 127}");
        CHECKS.is("far characters", Sample.shown(shower('c', 3, -1, 65601, 39), 0, 0, 'v'), "{-1, 65601, '''}");
        CHECKS.is("four lowest", Sample.shown(shower('i', 4, MIN, MIN, MIN, MIN), 0, 0, 'v'),
                "{-2147483648, -2147483648, -2147483648, -2147483648}");
        Unwindlens x = shower('i', 1, 123);
        is("signs", x.show(0, 0, 'v'), 3);
        fails("no frame", INDEX, x, () -> x.show(0, 1, 'V'));
        fails("no thread", INDEX, x, () -> x.show(1, 0, 'v'));
        fails("no letter", ARGUMENT, x, () -> x.show(0, 0, 'V'));
        fails("no name", ELEMENT, x, () -> x.show(0, 0, 'w'));
        x.jump(0, 13);
        CHECKS.is("gone", Sample.shown(x, 0, 0, 'v'), "gone");
    }

    private static void shown() {
        Unwindlens x = shower('i', 1, 123);
        fails("nothing", INDEX, x, () -> x.shown(0));
        x.show(0, 0, 'v');
        is("first", x.shown(0), '1');
        is("last", x.shown(2), '3');
        fails("behind", INDEX, x, () -> x.shown(3));
        fails("low", INDEX, x, () -> x.shown(-1));
        x.set(0, 0, 'v', 0, 9);
        is("as it was shown", x.shown(2), '3');
        x.show(0, 0, 'v');
        is("anew", x.shown(0), '9');
        fails("shorter", INDEX, x, () -> x.shown(1));
    }

    private static void stop() {
        Unwindlens x = Sample.base();
        is("first", x.stop(13), 0);
        is("the same", x.stop(13), 1);
        is("run", x.run(50), 13);
        is("lowest", x.which(), 0);
        is("the other", x.run(50), 0);
        is("then 1", x.which(), 1);
        is("on", x.run(50), 1);
        is("done", x.reason(), 'd');
        fails("no place", INDEX, x, () -> x.stop(14));
        fails("low place", INDEX, x, () -> x.stop(-1));
        for (int breakpoint = 2; breakpoint < 8; breakpoint++) {
            is("more", x.stop(0), breakpoint);
        }
        fails("ninth", STATE, x, () -> x.stop(0));
        fails("ninth at no place", INDEX, x, () -> x.stop(60));
        Unwindlens y = Sample.base();
        y.thread(1);
        y.stop(11);
        is("of thread 0", y.run(9), 2);
        is("of thread 1 then", y.run(9), 1);
        is("two hits", y.hits(0), 2);
        y.hold(1, true);
        is("0 goes on to its end", y.run(99), 12);
        y.hold(1, false);
        is("still not hit again", y.run(99), 13);
        is("two hits still", y.hits(0), 2);
    }

    private static void stopLine() {
        Unwindlens x = Sample.base();
        for (int place : new int[] {0, 1, 4, 5, 9, 10, 12}) {
            x.line(place, 6);
        }
        x.line(2, 7);
        is("line", x.stopLine(6), 0);
        x.line(7, 6);
        int[] steps = {0, 2, 4, 5, 1};
        int[] places = {10, 0, 4, 9, 12};
        for (int i = 0; i < steps.length; i++) {
            is("steps to it", x.run(50), steps[i]);
            is("where it begins", x.frame(0, 0, 'p'), places[i]);
        }
        is("no more", x.run(50), 2);
        fails("no line", ELEMENT, x, () -> x.stopLine(8));
        fails("line -1", ELEMENT, x, () -> x.stopLine(-1));
        fails("high line", ELEMENT, x, () -> x.stopLine(100));
        for (int breakpoint = 1; breakpoint < 8; breakpoint++) {
            is("more", x.stopLine(7), breakpoint);
        }
        fails("ninth", STATE, x, () -> x.stopLine(7));
        fails("ninth at no line", ELEMENT, x, () -> x.stopLine(9));
    }

    private static void stopIn() {
        Unwindlens x = Sample.base();
        is("at the rule i", x.stopIn(0), 0);
        is("at the first place without", x.stopIn(1), 1);
        x.rule(3, 'i');
        x.rule(1, '-');
        is("at the first place", x.run(50), 0);
        is("of function 1", x.which(), 1);
        is("as it was told", x.run(50), 3);
        is("of function 0", x.which(), 0);
        fails("no function", INDEX, x, () -> x.stopIn(2));
        fails("low function", INDEX, x, () -> x.stopIn(-1));
        Unwindlens y = Sample.base();
        y.rule(13, 'i');
        y.stopIn(1);
        is("the last place has the first rule i", y.run(50), 13);
        is("at a later rule", x.stopIn(0), 2);
        is("to it", x.run(50), 2);
        is("place", x.frame(0, 0, 'p'), 3);
        for (int breakpoint = 3; breakpoint < 8; breakpoint++) {
            x.stopIn(0);
        }
        fails("ninth", STATE, x, () -> x.stopIn(0));
        fails("ninth at no function", INDEX, x, () -> x.stopIn(3));
    }

    private static Unwindlens conditional(char letter, char how, int number) {
        Unwindlens x = Sample.named();
        x.stop(7);
        is("when", x.when(0, letter, how, number), 0);
        return x;
    }

    private static void when() {
        is("7 = 7", conditional('x', '=', 7).run(50), 9);
        is("7 = 8", conditional('x', '=', 8).run(50), 14);
        is("7 < 8", conditional('x', '<', 8).run(50), 9);
        is("7 < 7", conditional('x', '<', 7).run(50), 14);
        is("7 > 6", conditional('x', '>', 6).run(50), 9);
        is("7 > 7", conditional('x', '>', 7).run(50), 14);
        is("no such name", conditional('y', '=', 0).run(50), 14);
        is("no condition", conditional('-', '?', 0).run(50), 9);
        Unwindlens x = conditional('x', '=', 7);
        x.run(50);
        is("hits", x.when(0, 'x', '<', 0), 1);
        fails("no breakpoint", INDEX, x, () -> x.when(1, 'X', '?', 0));
        fails("low breakpoint", INDEX, x, () -> x.when(-1, 'x', '=', 0));
        fails("no letter", ARGUMENT, x, () -> x.when(0, 'X', '=', 0));
        fails("no sign", ARGUMENT, x, () -> x.when(0, 'x', '?', 0));
        x.stop(0);
        is("a variable that is gone", x.when(1, 'x', '<', MAX), 0);
        x.jump(0, 0);
        is("does not hold", x.run(1), 1);
        is("no hit", x.hits(1), 0);
        Unwindlens y = Sample.named();
        y.inlined(7, 7, 1, 5);
        y.stop(7);
        y.when(0, 'x', '=', 7);
        is("not seen in the inlined frame", y.run(50), 14);
        Unwindlens z = Sample.named();
        z.variable(0, 'r', 'i', 1);
        z.where(1, 0, 9, 'r', 2);
        z.thread(1);
        z.stop(7);
        z.when(0, 'r', '=', 7);
        is("a register", z.run(50), 18);
        z.when(0, 'x', '=', 8);
        z.set(1, 0, 'x', 0, 6);
        z.set(0, 0, 'x', 0, 8);
        is("the slot of thread 0", z.run(50), 0);
        z.when(0, 'x', '=', 6);
        is("the slot of thread 1", z.run(50), 1);
        is("both", z.hits(0), 3);
    }

    private static Unwindlens loop() {
        return Sample.thread("c 3 1; + 0 3; p 0 2; j 3 1");
    }

    private static void pass() {
        Unwindlens x = loop();
        x.stop(1);
        is("two", x.pass(0, 2), 0);
        is("passed over", x.run(50), 7);
        is("but counted", x.hits(0), 3);
        is("off", x.pass(0, -1), 3);
        is("none", x.run(50), 50);
        is("not counted", x.hits(0), 3);
        is("on", x.pass(0, 0), 3);
        is("hit", x.run(50), 1);
        is("counted", x.pass(0, 99), 4);
        x.run(500);
        is("most passed over", x.hits(0), 104);
        fails("no breakpoint", INDEX, x, () -> x.pass(1, 100));
        fails("low breakpoint", INDEX, x, () -> x.pass(-1, 0));
        fails("too many", ARGUMENT, x, () -> x.pass(0, 100));
        fails("too few", ARGUMENT, x, () -> x.pass(0, -2));
        passBesideOthers();
    }

    private static void passBesideOthers() {
        Unwindlens x = loop();
        x.stop(1);
        x.stop(1);
        x.pass(0, 1);
        is("one that is passed over is the only hit", x.run(50), 4);
        is("is counted", x.hits(0), 2);
        is("the next hit is its own", x.which(), 0);
        is("of the other none so far", x.hits(1), 0);
        is("behind the lower one", x.run(50), 0);
        is("comes the other", x.which(), 1);
        is("both are over", x.run(50), 3);
        is("and come again", x.which(), 0);
        Unwindlens y = loop();
        y.stop(1);
        y.stop(1);
        y.stop(1);
        y.pass(1, 1);
        is("the lowest", y.run(50), 1);
        is("stops", y.which(), 0);
        is("the one behind is passed over", y.run(50), 3);
        is("the lowest again", y.which(), 0);
        is("each was counted", y.hits(1), 1);
        is("the last one not", y.hits(2), 0);
        is("nothing is left to pass over", y.run(50), 0);
        is("the one behind stops", y.which(), 1);
        is("then the last one", y.run(50), 0);
        is("stops", y.which(), 2);
        Unwindlens z = loop();
        z.stop(1);
        z.stop(1);
        z.pass(0, 9);
        is("also by lines", z.stepLine(0, 'i'), 28);
        is("only the lower one is counted", z.hits(0), 10);
        is("never the other", z.hits(1), 0);
    }

    private static void hits() {
        Unwindlens x = loop();
        x.stop(1);
        is("none", x.hits(0), 0);
        x.run(5);
        is("one", x.hits(0), 1);
        x.run(2);
        is("not hit again", x.hits(0), 1);
        x.run(5);
        is("two", x.hits(0), 2);
        x.back(3);
        is("going back leaves them", x.hits(0), 2);
        x.run(5);
        is("hit behind going back", x.hits(0), 3);
        fails("no breakpoint", INDEX, x, () -> x.hits(1));
        fails("low breakpoint", INDEX, x, () -> x.hits(-1));
    }

    private static void watch() {
        Unwindlens x = loop();
        is("watch", x.watch(2), 0);
        is("run", x.run(50), 3);
        is("by a watch", x.reason(), 'w');
        is("number", x.which(), 0);
        is("run again", x.run(50), 3);
        x.patch(1, 'n', 0, 0);
        is("the same word is no change", x.run(50), 50);
        fails("no cell", INDEX, x, () -> x.watch(16));
        fails("low cell", INDEX, x, () -> x.watch(-1));
        is("second", x.watch(2), 1);
        is("third", x.watch(15), 2);
        is("fourth", x.watch(0), 3);
        fails("fifth", STATE, x, () -> x.watch(0));
        fails("fifth of no cell", INDEX, x, () -> x.watch(99));
        Unwindlens y = loop();
        y.watch(2);
        y.run(50);
        y.back(2);
        is("the word behind going back", y.run(50), 2);
        is("is another again", y.reason(), 'w');
        is("the last step too", y.run(3), 3);
        is("by the watch", y.reason(), 'w');
    }

    private static void watchName() {
        Unwindlens x = Sample.named();
        x.run(4);
        is("watch", x.watchName(0, 0, 'x'), 0);
        is("to the change", x.run(50), 5);
        is("by a watch", x.reason(), 'w');
        is("to its end", x.run(50), 2);
        is("by its end", x.reason(), 'e');
        is("number", x.which(), 0);
        is("to the end", x.run(50), 3);
        is("no more", x.reason(), 'd');
        Unwindlens y = Sample.named();
        fails("no frame", INDEX, y, () -> y.watchName(0, 1, 'X'));
        fails("no thread", INDEX, y, () -> y.watchName(1, 0, 'x'));
        fails("no letter", ARGUMENT, y, () -> y.watchName(0, 0, 'X'));
        fails("no name", ELEMENT, y, () -> y.watchName(0, 0, 'x'));
        y.run(3);
        fails("gone", UNSUPPORTED, y, () -> y.watchName(0, 0, 'x'));
        y.where(0, 0, 9, 'r', 0);
        fails("register", UNSUPPORTED, y, () -> y.watchName(0, 0, 'x'));
        y.where(0, 0, 9, '#', 0);
        fails("number", UNSUPPORTED, y, () -> y.watchName(0, 0, 'x'));
        y.where(0, 0, 9, 'g', 3);
        for (int watch = 0; watch < 4; watch++) {
            is("cell", y.watchName(0, 0, 'x'), watch);
        }
        fails("fifth", STATE, y, () -> y.watchName(0, 0, 'x'));
        y.where(0, 0, 9, 'r', 0);
        fails("fifth in a register", UNSUPPORTED, y, () -> y.watchName(0, 0, 'x'));
        y.run(50);
        is("the cell changes in another function", y.cell(3), 7);
        is("by the watch", y.reason(), 'w');
    }

    private static void watchesTogether() {
        Unwindlens x = Sample.named();
        x.run(4);
        x.watch(9);
        x.watchName(0, 0, 'x');
        x.watchName(0, 0, 'x');
        is("both change", x.run(50), 5);
        is("the lowest", x.which(), 1);
        is("both end", x.run(50), 2);
        is("the lowest ends", x.which(), 1);
        is("the other is not told again", x.run(50), 3);
        is("done", x.reason(), 'd');
        is("ended ones keep their numbers", x.watch(0), 3);
        fails("so there are 4", STATE, x, () -> x.watch(0));
        Unwindlens y = Sample.named();
        y.run(4);
        y.watchName(0, 0, 'x');
        y.back(2);
        y.run(2);
        is("ended by going back", y.run(50), 10);
        is("so not told", y.reason(), 'd');
        Unwindlens z = Sample.named();
        z.run(4);
        z.watchName(0, 0, 'x');
        z.set(0, 0, 'x', 0, 8);
        is("looked at anew behind a change by hand", z.run(4), 4);
        is("all steps", z.reason(), 'n');
        is("then", z.run(9), 1);
        is("by the watch", z.reason(), 'w');
    }

    private static void run() {
        Unwindlens x = Sample.base();
        is("steps", x.run(1), 1);
        is("all", x.reason(), 'n');
        x.stop(12);
        is("exactly to a breakpoint", x.run(11), 11);
        is("no hit then", x.reason(), 'n');
        is("hit at once", x.run(1), 0);
        is("by it", x.reason(), 'b');
        is("to the end", x.run(2), 2);
        is("all steps, also if none can go", x.reason(), 'n');
        is("none can go", x.run(500), 0);
        is("d", x.reason(), 'd');
        fails("0", ARGUMENT, x, () -> x.run(0));
        fails("501", ARGUMENT, x, () -> x.run(501));
        fails("low", ARGUMENT, x, () -> x.run(MIN));
        is("500", loop().run(500), 500);
        Unwindlens y = Sample.base();
        y.thread(1);
        y.hold(0, true);
        is("the other alone", y.run(500), 14);
        y.hold(0, false);
        is("then the held one", y.run(500), 14);
    }

    private static Unwindlens lined() {
        Unwindlens x = Sample.base();
        int[] places = {1, 2, 3, 5, 11, 12};
        int[] lines = {1, 2, 2, 3, 20, 21};
        for (int i = 0; i < places.length; i++) {
            x.line(places[i], lines[i]);
        }
        return x;
    }

    private static void stepLineInto() {
        Unwindlens x = lined();
        int[] steps = {1, 2, 1, 3, 5};
        int[] places = {11, 1, 2, 5, 12};
        for (int i = 0; i < steps.length; i++) {
            is("steps", x.stepLine(0, 'i'), steps[i]);
            is("all right", x.reason(), 'n');
            is("place", x.frame(0, 0, 'p'), places[i]);
        }
        is("to the end", x.stepLine(0, 'i'), 2);
        is("d", x.reason(), 'd');
        fails("not ready", UNSUPPORTED, x, () -> x.stepLine(0, 'i'));
        fails("no way", ARGUMENT, x, () -> x.stepLine(0, 'q'));
        fails("no thread", INDEX, x, () -> x.stepLine(1, 'q'));
        fails("low thread", INDEX, x, () -> x.stepLine(-1, 'i'));
        Unwindlens y = lined();
        y.hold(0, true);
        fails("held", UNSUPPORTED, y, () -> y.stepLine(0, 'i'));
        Unwindlens z = Sample.thread("c 3 1; j 3 0");
        is("at most 200", z.stepLine(0, 'i'), 200);
        is("all steps", z.reason(), 'n');
        is("no step more", z.time(), 200);
        z.line(1, 4);
        z.jump(0, 1);
        is("at least one step", z.stepLine(0, 'i'), 2);
        z.patch(1, 'h', 0, 0);
        is("it ends at a line", z.stepLine(0, 'i'), 1);
        is("and is not ready", z.reason(), 'd');
    }

    private static void stepLineOver() {
        Unwindlens x = lined();
        x.stepLine(0, 'o');
        is("at the call", x.frame(0, 0, 'p'), 11);
        is("over it", x.stepLine(0, 'o'), 11);
        is("behind it", x.frame(0, 0, 'p'), 12);
        Unwindlens y = lined();
        y.run(3);
        y.inlined(2, 4, 1, 9);
        is("over an inlined call", y.stepLine(0, 'o'), 4);
        is("to the line behind", y.frame(0, 0, 'p'), 5);
        y.jump(0, 2);
        y.line(4, 8);
        is("in the one in which it was", y.stepLine(0, 'o'), 2);
        is("inside", y.frame(0, 0, 'p'), 4);
        Unwindlens z = lined();
        z.run(5);
        z.line(6, 0);
        z.stepLine(0, 'o');
        z.stepLine(0, 'o');
        is("fewer frames are right", z.stepLine(0, 'o'), 4);
        is("in the function that called", z.frame(0, 0, 'p'), 12);
    }

    private static void stepLineOut() {
        Unwindlens x = Sample.base();
        x.run(2);
        is("by the rule o", x.stepLine(0, 'u'), 10);
        is("behind the call", x.frame(0, 0, 'p'), 12);
        is("n", x.reason(), 'n');
        is("without a frame behind", x.stepLine(0, 'u'), 2);
        is("d", x.reason(), 'd');
        Unwindlens y = Sample.base();
        y.run(6);
        is("by the rule i", y.stepLine(0, 'u'), 6);
        is("behind it", y.frame(0, 0, 'p'), 12);
        Unwindlens z = Sample.base();
        z.run(6);
        z.inlined(4, 5, 1, 3);
        is("inlined ones are not counted", z.stepLine(0, 'u'), 6);
    }

    private static void stepLineStops() {
        Unwindlens x = lined();
        x.stop(0);
        is("to the line", x.stepLine(0, 'i'), 1);
        is("stopped in the call", x.stepLine(0, 'o'), 1);
        is("by a breakpoint", x.reason(), 'b');
        is("number", x.which(), 0);
        is("over it then", x.stepLine(0, 'u'), 10);
        x.watch(3);
        is("stopped by a watch", x.stepLine(0, 'u'), 1);
        is("w", x.reason(), 'w');
        Unwindlens y = Sample.named();
        y.thread(1);
        y.stepLine(0, 'i');
        is("one thread alone", y.frame(1, 0, 'p'), 10);
        y.run(1);
        is("1 goes behind 0", y.frame(1, 0, 'p'), 11);
        Unwindlens z = Sample.named();
        z.run(4);
        z.watchName(0, 0, 'x');
        z.pass(z.stop(11), -1);
        is("to the change", z.stepLine(0, 'u'), 5);
        is("to the end of a watch", z.stepLine(0, 'u'), 2);
        is("e", z.reason(), 'e');
        z.stop(9);
        is("hit ahead of the first step", z.stepLine(0, 'u'), 0);
        is("b", z.reason(), 'b');
        is("not hit again", z.stepLine(0, 'u'), 1);
    }

    private static void reason() {
        Unwindlens x = Sample.base();
        is("at first", x.reason(), '-');
        x.run(1);
        is("n", x.reason(), 'n');
        fails("a run that throws", ARGUMENT, x, () -> x.run(0));
        x.stop(11);
        x.run(2);
        is("b", x.reason(), 'b');
        x.back(1);
        is("going back leaves it", x.reason(), 'b');
        x.pass(0, -1);
        x.run(500);
        is("d", x.reason(), 'd');
    }

    private static void which() {
        Unwindlens x = Sample.base();
        fails("none at first", ELEMENT, x, () -> x.which());
        x.stop(12);
        x.stop(11);
        x.watch(3);
        x.run(9);
        is("breakpoint", x.which(), 1);
        x.run(99);
        is("the next", x.which(), 0);
        x.run(99);
        is("watch", x.which(), 0);
        is("by it", x.reason(), 'w');
        x.run(9);
        fails("none", ELEMENT, x, () -> x.which());
    }

    private static void back() {
        Unwindlens x = Sample.base();
        long[] sums = new long[15];
        for (int step = 0; step < 14; step++) {
            sums[step] = x.checksum();
            x.run(1);
        }
        sums[14] = x.checksum();
        is("one", x.back(1), 13);
        is("sum", x.checksum(), sums[13]);
        is("state", x.state(0), 'r');
        is("four more", x.back(4), 9);
        is("sum then", x.checksum(), sums[9]);
        is("forth", x.run(2), 2);
        is("sum of forth", x.checksum(), sums[11]);
        fails("more than are kept", UNSUPPORTED, x, () -> x.back(12));
        is("all", x.back(11), 0);
        is("sum of all", x.checksum(), sums[0]);
        fails("none kept", UNSUPPORTED, x, () -> x.back(1));
        fails("0", ARGUMENT, x, () -> x.back(0));
        fails("1001", ARGUMENT, x, () -> x.back(1001));
        fails("low", ARGUMENT, x, () -> x.back(-1));
        backFar();
        backTurns();
    }

    private static void backFar() {
        Unwindlens x = loop();
        x.run(500);
        x.run(500);
        is("1000 are kept", x.back(1000), 0);
        x.run(500);
        x.run(500);
        x.run(1);
        fails("kept anew", UNSUPPORTED, x, () -> x.back(2));
        is("one", x.back(1), 1000);
        fails("none", UNSUPPORTED, x, () -> x.back(1));
    }

    private static void backTurns() {
        Unwindlens x = Sample.base();
        x.thread(1);
        x.run(2);
        x.back(1);
        x.run(1);
        is("whose turn it is", x.frame(1, 0, 'p'), 11);
        is("not 0", x.frame(0, 0, 'p'), 11);
        x.back(2);
        x.hold(0, true);
        x.run(1);
        is("another way forth", x.frame(1, 0, 'p'), 11);
        is("0 stands", x.frame(0, 0, 'p'), 10);
        x.stop(11);
        x.run(1);
        is("hit", x.hits(0), 1);
        x.run(1);
        x.back(1);
        x.run(1);
        is("hit again behind going back", x.hits(0), 2);
        backToStart();
    }

    private static void backToStart() {
        Unwindlens x = Sample.named();
        x.thread(1);
        x.run(10);
        x.set(0, 0, 'x', 0, 40);
        long sum = x.checksum();
        x.run(1);
        x.set(1, 0, 'x', 0, 41);
        sum = x.checksum();
        x.run(7);
        is("to the start of what is kept", x.back(7), 11);
        is("with the words of stacks", x.value(0, 0, 'x', 0) * 100 + x.value(1, 0, 'x', 0), 4041);
        is("its sum", x.checksum(), sum);
        x.run(1);
        is("its turn", x.frame(1, 0, 'p') * 100 + x.frame(0, 0, 'p'), 404);
        Unwindlens y = Sample.base();
        y.thread(1);
        y.stop(10);
        y.run(1);
        y.stepLine(1, 'i');
        is("stopped for both", y.hits(0), 2);
        y.hold(0, true);
        y.run(1);
        y.hold(0, false);
        y.back(1);
        is("hit again, though it did not go", y.run(1), 0);
        is("by going back", y.hits(0), 3);
    }

    private static void backTo() {
        Unwindlens x = Sample.named();
        fails("nothing kept", ELEMENT, x, () -> x.backTo());
        x.stop(10);
        x.stop(7);
        x.pass(0, 9);
        x.pass(1, 9);
        x.run(50);
        is("the last", x.backTo(), 5);
        is("time", x.time(), 9);
        is("hits stay", x.hits(1), 1);
        is("ahead of now", x.backTo(), 9);
        fails("no more", ELEMENT, x, () -> x.backTo());
        x.run(50);
        x.when(1, 'x', '=', 6);
        is("the condition does not hold", x.backTo(), 14);
        x.run(50);
        x.when(1, 'x', '=', 7);
        x.pass(0, -1);
        is("it holds", x.backTo(), 5);
        fails("the other is off", ELEMENT, x, () -> x.backTo());
        Unwindlens y = Sample.base();
        y.thread(1);
        y.pass(y.stop(10), 5);
        y.run(3);
        is("the thread that went then", y.backTo(), 2);
        is("and the first one", y.backTo(), 1);
    }

    private static void set() {
        Unwindlens x = Sample.named();
        x.run(4);
        is("slot", x.set(0, 0, 'x', 0, 40), 5);
        is("is set", x.value(0, 0, 'x', 0), 40);
        fails("ends what is kept", UNSUPPORTED, x, () -> x.back(1));
        fails("no word", INDEX, x, () -> x.set(0, 0, 'x', 1, 0));
        fails("no frame", INDEX, x, () -> x.set(0, 2, 'x', 0, 0));
        fails("no thread", INDEX, x, () -> x.set(3, 0, 'x', 0, 0));
        fails("no letter", ARGUMENT, x, () -> x.set(0, 0, 'X', 5, 0));
        fails("no name", ELEMENT, x, () -> x.set(0, 0, 'y', 0, 0));
        x.variable(0, 'r', 'i', 1);
        x.where(1, 0, 9, 'r', 2);
        x.variable(0, 'g', 'i', 2);
        x.where(2, 0, 9, 'g', 7);
        x.variable(0, 'n', 'i', 1);
        x.where(3, 0, 9, '#', 7);
        is("register", x.set(0, 0, 'r', 0, 66), 0);
        is("it is", x.register(0, 2), 66);
        is("cell", x.set(0, 0, 'g', 1, 55), 0);
        is("that is", x.cell(8), 55);
        fails("a number itself", UNSUPPORTED, x, () -> x.set(0, 0, 'n', 0, 1));
        x.where(3, 0, 0, '#', 7);
        x.jump(0, 9);
        fails("gone", ELEMENT, x, () -> x.set(0, 0, 'x', 0, 1));
        fails("gone without a word", INDEX, x, () -> x.set(0, 0, 'x', 2, 1));
        Unwindlens y = Sample.base();
        y.scope(10, 13);
        y.variable(0, 'o', 'i', 1);
        y.where(0, 10, 13, 'r', 0);
        y.run(100);
        is("of one that is done", y.set(0, 0, 'o', 0, 3), 7);
        is("set", y.register(0, 0), 3);
        Unwindlens z = Sample.named();
        z.stop(z.frame(0, 0, 'p'));
        z.run(1);
        z.scope(10, 13);
        z.variable(1, 'o', 'i', 1);
        z.where(1, 10, 13, 'r', 0);
        z.set(0, 0, 'o', 0, 0);
        is("hit again behind a change by hand", z.run(1), 0);
    }

    private static void jump() {
        Unwindlens x = Sample.base();
        x.run(1);
        is("jump", x.jump(0, 13), 11);
        is("there", x.frame(0, 0, 'p'), 13);
        fails("ends what is kept", UNSUPPORTED, x, () -> x.back(1));
        x.hold(0, true);
        is("a held one", x.jump(0, 12), 13);
        x.hold(0, false);
        fails("no place", INDEX, x, () -> x.jump(0, 14));
        fails("low place", INDEX, x, () -> x.jump(0, -1));
        fails("no thread", INDEX, x, () -> x.jump(1, 0));
        x.stop(12);
        x.run(1);
        x.jump(0, 12);
        is("hit again", x.run(1), 0);
        x.run(9);
        fails("not ready", UNSUPPORTED, x, () -> x.jump(0, 0));
        fails("not ready, no place", INDEX, x, () -> x.jump(0, 99));
    }

    private static void call() {
        Unwindlens x = Sample.named();
        x.thread(1);
        x.run(9);
        x.watch(3);
        x.stop(0);
        long sum = x.checksum();
        is("call", x.call(0, 0, 30), 32);
        is("all as it was", x.checksum(), sum);
        is("but the time", x.time(), 19);
        is("no hits", x.hits(0), 0);
        fails("ends what is kept", UNSUPPORTED, x, () -> x.back(1));
        is("place", x.frame(1, 0, 'p'), 2);
        x.run(1);
        is("1 goes behind 0, which went last", x.frame(1, 0, 'p'), 3);
        x.call(0, 0, 1);
        x.run(1);
        is("1 goes behind 0, which was called", x.frame(1, 0, 'p'), 4);
        x.hold(0, true);
        is("a held one", x.call(0, 0, MAX), MIN + 1);
        fails("no thread", INDEX, x, () -> x.call(2, 0, 0));
        fails("no function", INDEX, x, () -> x.call(0, 2, 0));
        fails("low function", INDEX, x, () -> x.call(0, -1, 0));
        Unwindlens y = Sample.functions();
        Sample.code(y, "p 0 5; p 1 6; p 2 7; p 3 8; c 0 77; r 0 0");
        y.function(14, 19);
        Sample.code(y, "c 0 1; c 1 2; c 2 3; c 3 4; h 0 0");
        y.function(20, 24);
        y.thread(3);
        y.run(4);
        y.watch(5);
        is("cells stay", y.call(0, 2, 11), 77);
        is("the register 0 told", y.cell(5), 11);
        is("registers 1 to 3 are 0", y.cell(6) | y.cell(7) | y.cell(8), 0);
        is("registers as they were", y.register(0, 0) * 1000 + y.register(0, 3), 1004);
        is("watches look anew", y.run(9), 1);
        is("not told", y.reason(), 'd');
        fails("not ready", UNSUPPORTED, y, () -> y.call(0, 2, 0));
        fails("not ready, no function", INDEX, y, () -> y.call(0, 9, 0));
    }

    private static void callThatDoesNotReturn() {
        Unwindlens x = Sample.functions();
        Sample.code(x, "p 0 1; c 3 1; j 3 15");
        x.function(14, 16);
        Sample.code(x, "p 0 1; x 0 0; r 0 0");
        x.function(17, 19);
        Sample.code(x, "p 0 1; l 0 3; r 0 0");
        x.function(20, 22);
        Sample.code(x, "c 1 1; - 0 1; j 0 23; r 0 0");
        x.function(23, 26);
        x.thread(1);
        x.run(3);
        fails("ends the thread", UNSUPPORTED, x, () -> x.call(0, 1, 1));
        fails("goes on without an end", UNSUPPORTED, x, () -> x.call(0, 2, 1));
        fails("x takes the word off", UNSUPPORTED, x, () -> x.call(0, 3, 1));
        fails("a fault", UNSUPPORTED, x, () -> x.call(0, 4, 1));
        is("kept still", x.back(1), 2);
        x.run(1);
        is("199 steps", x.call(0, 5, 66), 0);
        is("time", x.time(), 202);
        x.patch(23, 'n', 0, 0);
        fails("without an end too", UNSUPPORTED, x, () -> x.call(0, 5, 66));
        x.patch(23, 'c', 1, 1);
        Unwindlens y = Sample.functions();
        Sample.code(y, "c 1 1; - 0 1; j 0 14; n 0 0; r 0 0");
        y.function(14, 18);
        y.thread(1);
        is("200 steps", y.call(0, 2, 66), 0);
        is("time of them", y.time(), 200);
        y.code('r', 0, 0);
        y.patch(18, 'n', 0, 0);
        fails("201 steps", UNSUPPORTED, y, () -> y.call(0, 2, 66));
        callThatLosesTheWord();
        Unwindlens z = Sample.thread("e 0 4; e 0 4; e 0 4; e 0 4; e 0 4; e 0 4; e 0 4; e 0 4; h 0 0; r 0 0");
        z.code('r', 0, 0);
        z.function(10, 10);
        z.run(7);
        is("35 words leave room", z.call(0, 1, 4), 4);
        z.run(1);
        fails("40 words do not", UNSUPPORTED, z, () -> z.call(0, 1, 4));
    }

    /** An x takes off the word that was put on the stack, and an r takes another one off at the same place. */
    private static void callThatLosesTheWord() {
        Unwindlens x = new Unwindlens();
        Sample.code(x, "n 0 0; k 0 1; h 0 0; e 0 0; r 0 0; x 0 0; k 0 3; r 0 0; r 0 0");
        x.function(0, 2);
        x.function(3, 4);
        x.function(5, 7);
        x.function(8, 8);
        x.thread(0);
        x.run(4);
        is("base above the size", x.frame(0, 0, 'b'), 2);
        CHECKS.is("one word", x.meanStack(), 1.0);
        fails("an x takes the word off", UNSUPPORTED, x, () -> x.call(0, 2, 1));
        x.patch(5, 'n', 0, 0);
        is("an r of a call within does not end it", x.call(0, 2, 1), 1);
        is("all four steps", x.time(), 8);
    }

    private static void doneShare() {
        Unwindlens x = Sample.base();
        CHECKS.is("none", x.doneShare(), 0.0f);
        x.thread(0);
        x.thread(0);
        x.hold(1, true);
        x.hold(2, true);
        x.run(500);
        CHECKS.is("a third", x.doneShare(), 1.0f / 3.0f);
        x.hold(1, false);
        x.jump(1, 8);
        x.run(1);
        is("a fault", x.fault(1), 'u');
        CHECKS.is("a faulty one is not done", x.doneShare(), 1.0f / 3.0f);
        x.hold(2, false);
        x.run(500);
        CHECKS.is("two thirds", x.doneShare(), 2.0f / 3.0f);
        Unwindlens y = Sample.functions();
        fails("no threads", ArithmeticException.class, y, () -> y.doneShare());
    }

    private static void meanStack() {
        Unwindlens x = Sample.base();
        CHECKS.is("0", x.meanStack(), 0.0);
        x.run(3);
        CHECKS.is("4 words", x.meanStack(), 4.0);
        x.thread(1);
        x.thread(1);
        CHECKS.is("4 thirds", x.meanStack(), 4.0 / 3.0);
        Unwindlens y = Sample.functions();
        fails("no threads", ArithmeticException.class, y, () -> y.meanStack());
    }

    private static void checksum() {
        Unwindlens x = new Unwindlens();
        long sum = 7;
        for (int cell = 0; cell < 16; cell++) {
            sum *= 31;
        }
        is("cells", x.checksum(), sum);
        Sample.code(x, "c 0 -3; p 0 15; e 0 1; s 0 0; h 0 0");
        x.function(0, 4);
        x.thread(0);
        x.run(4);
        sum += -3;
        for (int word : new int[] {4, 1, 2, -3, 0, 0, 0, 0, -3, 'r'}) {
            sum = 31 * sum + word;
        }
        is("a thread", x.checksum(), sum);
        x.run(1);
        is("its state", x.checksum(), sum - 'r' + 'd');
        sum = x.checksum();
        x.thread(0);
        for (int word : new int[] {0, 0, 0, 0, 0, 0, 0, 'r'}) {
            sum = 31 * sum + word;
        }
        is("two threads", x.checksum(), sum);
    }

    private static void isTrue() {
        Unwindlens x = loop();
        x.thread(0);
        CHECKS.yes("at first", x.isTrue());
        for (int times = 0; times < 5; times++) {
            x.run(301);
            long sum = x.checksum();
            CHECKS.yes("behind steps", x.isTrue());
            is("leaves no trace", x.checksum(), sum);
        }
        x.hold(1, true);
        x.run(20);
        x.hold(0, true);
        CHECKS.yes("with holds", x.isTrue());
        x.back(5);
        CHECKS.yes("behind going back", x.isTrue());
        Unwindlens y = Sample.thread("n 0 0; n 0 0");
        y.run(1);
        CHECKS.yes("at an instruction", y.isTrue());
        y.run(1);
        is("at a place without one", y.isTrue() ? 1 : 0, 0);
        y.run(1);
        is("stopped there", y.fault(0), 'p');
        is("and still there", y.isTrue() ? 1 : 0, 0);
    }
}
