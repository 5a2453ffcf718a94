import java.util.NoSuchElementException;

/** The Terms of the document from code to what is shown, sentence by sentence. */
public final class TermsTest {
    private static final Class<IndexOutOfBoundsException> INDEX = Sentences.INDEX;
    private static final Class<IllegalArgumentException> ARGUMENT = Sentences.ARGUMENT;
    private static final Class<NoSuchElementException> ELEMENT = Sentences.ELEMENT;
    private static final Class<UnsupportedOperationException> UNSUPPORTED = Sentences.UNSUPPORTED;
    private static final Class<IllegalStateException> STATE = Sentences.STATE;
    private static final int MAX = Integer.MAX_VALUE;
    private static final int MIN = Integer.MIN_VALUE;
    private static final Sentences DOC = new Sentences();

    private TermsTest() {
    }

    public static void main(String[] args) {
        what();
        code();
        kinds();
        stackKinds();
        words();
        faults();
        faultsOfStacks();
        functionsAndThreads();
        steps();
        lines();
        rules();
        frames();
        noNextFrame();
        inlined();
        scopes();
        variables();
        wheres();
        goneOnes();
        shown();
        DOC.end("TermsTest", "Shown.");
    }

    private static void says(String text) {
        DOC.says(text);
    }

    private static void is(String what, long got, long due) {
        DOC.is(what, got, due);
    }

    private static void fails(String what, Class<? extends RuntimeException> due, Unwindlens x,
            java.util.concurrent.Callable<?> call) {
        DOC.fails(what, due, x, call);
    }

    private static int[] registers(int... words) {
        return Whole.registers(words);
    }

    private static void what() {
        DOC.section("What");
        says("What is shown for a name is what is there, or that it is gone;");
        Unwindlens x = Sample.named();
        x.run(4);
        DOC.is("there", Sample.shown(x, 0, 0, 'x'), "5");
        x.set(0, 0, 'x', 0, -6);
        DOC.is("what is there then", Sample.shown(x, 0, 0, 'x'), "-6");
        x.jump(0, 9);
        DOC.is("gone", Sample.shown(x, 0, 0, 'x'), "gone");
        says("going back and forth leaves no trace;");
        Unwindlens y = Sample.named();
        y.thread(1);
        y.stop(7);
        y.watch(3);
        y.run(12);
        String before = Digest.of(y);
        for (int steps = 1; steps <= 12; steps++) {
            is("back", y.back(steps), 12 - steps);
            is("forth", y.run(steps), steps);
            DOC.is(steps + " steps back and forth", Digest.of(y), before);
        }
        says("no breakpoint changes what the target does.");
        Unwindlens free = Sample.named();
        free.thread(1);
        free.run(500);
        Unwindlens stopped = Sample.named();
        stopped.thread(1);
        for (int place : new int[] {0, 1, 7, 7, 10, 13}) {
            stopped.stop(place);
        }
        stopped.when(2, 'x', '=', 7);
        stopped.pass(1, 1);
        for (int runs = 0; runs < 40 && stopped.reason() != 'd'; runs++) {
            stopped.run(500);
        }
        DOC.yes("stopped often", stopped.hits(0) + stopped.hits(2) + stopped.hits(4) > 4);
        is("the same sum", stopped.checksum(), free.checksum());
        is("the same time", stopped.time(), free.time());
    }

    private static void code() {
        DOC.section("Code.");
        says("Code. At most 60 instructions stand at places from 0 on.");
        Unwindlens x = new Unwindlens();
        for (int place = 0; place < 60; place++) {
            is("place", x.code('n', 0, 0), place);
        }
        fails("61st", STATE, x, () -> x.code('n', 0, 0));
        is("the place 59 is there", x.patch(59, 'h', 0, 0), 'n');
        fails("the place 60 is not", INDEX, x, () -> x.patch(60, 'h', 0, 0));
        says("A thread has the registers 0 to 3, and a stack of at most 40 words, with a base;");
        Unwindlens y = Sample.thread("c 0 10; c 1 11; c 2 12; c 3 13; e 0 4; c 0 10; j 0 4");
        y.run(4);
        for (int register = 0; register < 4; register++) {
            is("register", y.register(0, register), 10 + register);
        }
        fails("register 4", INDEX, y, () -> y.register(0, 4));
        fails("register -1", INDEX, y, () -> y.register(0, -1));
        y.run(22);
        DOC.is("40 words", y.meanStack(), 40.0);
        is("base", y.frame(0, 0, 'b'), 36);
        y.run(3);
        DOC.is("no more", y.meanStack(), 40.0);
        is("but a fault", y.fault(0), 'o');
        says("there are 16 cells, of all threads.");
        Unwindlens z = new Unwindlens();
        Sample.code(z, "c 0 21; p 0 0; c 0 22; p 0 15; h 0 0; g 2 0; g 3 15; h 0 0");
        z.function(0, 4);
        z.function(5, 7);
        z.thread(0);
        z.thread(1);
        z.hold(1, true);
        z.run(5);
        z.hold(1, false);
        z.run(3);
        is("cell 0 of another thread", z.register(1, 2), 21);
        is("cell 15 of another thread", z.register(1, 3), 22);
        is("cell 0", z.cell(0), 21);
        is("cell 15", z.cell(15), 22);
        fails("cell 16", INDEX, z, () -> z.cell(16));
        fails("cell -1", INDEX, z, () -> z.cell(-1));
    }

    private static void kinds() {
        says("An instruction has a kind, a and b:");
        Unwindlens k = new Unwindlens();
        String all = "ncm+-*lgspjkexrh";
        for (int place = 0; place < all.length(); place++) {
            k.code(all.charAt(place), 1, 2);
        }
        for (int place = 0; place < all.length(); place++) {
            is("kind", k.patch(place, 'n', 0, 0), all.charAt(place));
        }
        says("'n' nothing;");
        Unwindlens n = Sample.thread("n 1 2; h 0 0");
        n.run(1);
        is("but the place", n.checksum(), new Whole().thread(1, 0, registers(), 'r').sum());
        says("'c' the register a becomes b;");
        Unwindlens c = Sample.thread("c 0 " + MIN + "; c 1 -1; c 2 0; c 3 " + MAX + "; c 1 7");
        c.run(4);
        is("all four", c.checksum(), new Whole().thread(4, 0, registers(MIN, -1, 0, MAX), 'r').sum());
        c.run(1);
        is("anew", c.register(0, 1), 7);
        says("'m' the register b;");
        Unwindlens m = Sample.thread("c 0 5; m 3 0; m 1 3; m 0 2; m 3 3");
        m.run(3);
        is("two", m.checksum(), new Whole().thread(3, 0, registers(5, 5, 0, 5), 'r').sum());
        m.run(2);
        is("0 and itself", m.checksum(), new Whole().thread(5, 0, registers(0, 5, 0, 5), 'r').sum());
        says("'+', '-', '*' itself and, less, or times the register b;");
        Unwindlens a = Sample.thread("c 0 9; c 1 4; + 0 1; - 1 0; * 0 1; + 0 0; - 1 1; * 0 0");
        a.run(3);
        is("9 and 4", a.register(0, 0), 13);
        is("b stays", a.register(0, 1), 4);
        a.run(1);
        is("4 less 13", a.register(0, 1), -9);
        is("13 stays", a.register(0, 0), 13);
        a.run(1);
        is("13 times -9", a.register(0, 0), -117);
        a.run(3);
        is("itself less itself", a.register(0, 1), 0);
        is("itself and itself, times itself", a.register(0, 0), 54756);
        says("'l' the slot b;");
        Unwindlens l = Lab.stack(0, 71, 72, 73);
        int first = l.code('l', 3, 2);
        l.code('l', 1, 0);
        l.jump(0, first);
        l.run(2);
        is("slot 2", l.register(0, 3), 73);
        is("slot 0", l.register(0, 1), 71);
        DOC.is("the stack stays", l.meanStack(), 3.0);
        says("'g' the cell b;");
        Unwindlens g = Sample.thread("c 0 31; p 0 0; c 0 32; p 0 15; g 1 0; g 2 15; g 3 7");
        g.run(7);
        is("cells 0, 15 and 7", g.checksum(),
                new Whole().cell(0, 31).cell(15, 32).thread(7, 0, registers(32, 31, 32, 0), 'r').sum());
        says("'s' the slot b becomes the register a, 'p' the cell b does;");
        Unwindlens s = Sample.thread("c 1 41; c 2 42; e 0 4; s 1 0; s 2 3; s 3 1; p 2 0; p 1 15; p 1 8");
        s.run(9);
        is("slots and cells", s.checksum(), new Whole().cell(0, 42).cell(8, 41).cell(15, 41)
                .thread(9, 1, registers(0, 41, 42, 0), 'r', 0, 41, 0, 0, 42).sum());
        says("'j' the place b is next if the register a is not 0;");
        for (int word : new int[] {1, -1, MIN, MAX, 256}) {
            Unwindlens j = Sample.thread("c 2 " + word + "; j 2 0; h 0 0");
            j.run(2);
            is("not 0", j.frame(0, 0, 'p'), 0);
        }
        Unwindlens zero = Sample.thread("c 1 5; j 2 0; j 1 1");
        zero.run(2);
        is("0", zero.frame(0, 0, 'p'), 2);
        zero.run(1);
        is("another register", zero.frame(0, 0, 'p'), 1);
    }

    private static void stackKinds() {
        says("'k' puts the place behind on the stack and goes to the first place of the function b;");
        Unwindlens k = new Unwindlens();
        Sample.code(k, "n 0 0; k 3 1; h 0 0; n 0 0; k 0 0");
        k.function(1, 2);
        k.function(4, 4);
        k.thread(0);
        k.run(1);
        is("to the function 1", k.checksum(), new Whole().thread(4, 0, registers(), 'r', 2).sum());
        k.run(1);
        is("to the function 0", k.checksum(), new Whole().thread(1, 0, registers(), 'r', 2, 5).sum());
        says("'e' puts the base on the stack, makes the base the size of the stack, and puts b words 0 on it, 0 to 4;");
        Unwindlens e = Sample.thread("e 0 0; e 0 4; e 1 1; h 0 0");
        e.run(1);
        is("0 words", e.checksum(), new Whole().thread(1, 1, registers(), 'r', 0).sum());
        e.run(1);
        is("4 words", e.checksum(), new Whole().thread(2, 2, registers(), 'r', 0, 1, 0, 0, 0, 0).sum());
        e.run(1);
        is("1 word", e.checksum(), new Whole().thread(3, 7, registers(), 'r', 0, 1, 0, 0, 0, 0, 2, 0).sum());
        fails("5 words", ARGUMENT, e, () -> e.code('e', 0, 5));
        fails("-1 words", ARGUMENT, e, () -> e.code('e', 0, -1));
        Unwindlens used = Sample.thread("c 0 9; e 0 1; s 0 0; x 0 0; e 0 1; h 0 0");
        used.run(5);
        is("0 also where another word was", used.checksum(),
                new Whole().thread(5, 1, registers(9), 'r', 0, 0).sum());
        says("'x' takes words off till the size is the base, and takes the base off;");
        Unwindlens x = Sample.thread("e 0 2; e 0 4; x 1 2; x 0 0; h 0 0");
        x.run(3);
        is("four words and the base", x.checksum(), new Whole().thread(3, 1, registers(), 'r', 0, 0, 0).sum());
        x.run(1);
        is("two words and the base", x.checksum(), new Whole().thread(4, 0, registers(), 'r').sum());
        Unwindlens none = Lab.stack(3, 1, 2, -7);
        Lab.at(none, 6);
        is("no word, but the base", none.checksum(), new Whole().thread(7, -7, registers(), 'r', 1, 2).sum());
        says("'r' ends the thread if the stack is empty, otherwise takes the next place off;");
        Unwindlens r = Sample.thread("k 0 0; r 0 0; n 0 0; r 3 3");
        r.run(1);
        Lab.at(r, 3);
        is("takes it off", r.checksum(), new Whole().thread(1, 0, registers(), 'r').sum());
        is("one step", r.run(9), 1);
        is("empty", r.checksum(), new Whole().thread(1, 0, registers(), 'd').sum());
        is("the time goes on", r.time(), 3);
        Unwindlens far = Lab.stack(0, MIN, MAX);
        Lab.at(far, 5);
        is("any place", far.checksum(), new Whole().thread(MAX, 0, registers(), 'r', MIN).sum());
        far.run(1);
        is("where no instruction is", far.fault(0), 'p');
        says("'h' ends the thread.");
        Unwindlens h = Sample.thread("e 0 1; h 1 1");
        is("steps", h.run(9), 2);
        is("ended with its stack", h.checksum(), new Whole().thread(1, 1, registers(), 'd', 0, 0).sum());
    }

    private static void words() {
        says("The slot b is the word of the stack at the base and b.");
        for (int base = -1; base < 4; base++) {
            for (int slot = 0; slot < 4; slot++) {
                Unwindlens x = Lab.stack(base, 91, 92, 93);
                x.jump(0, x.code('l', 0, slot));
                x.run(1);
                int word = base + slot;
                boolean isThere = word >= 0 && word < 3;
                is("slot " + slot + " at " + base, x.state(0), isThere ? 'r' : 'f');
                is("word", x.register(0, 0), isThere ? 91 + word : 0);
            }
        }
        says("All is 0 at first;");
        Unwindlens first = Sample.thread("h 0 0");
        is("cells, registers, base and size", first.checksum(), new Whole().thread(0, 0, registers(), 'r').sum());
        is("time", first.time(), 0);
        first.run(1);
        first.thread(0);
        is("also of a later thread", first.checksum(),
                new Whole().thread(0, 0, registers(), 'd').thread(0, 0, registers(), 'r').sum());
        says("words go round.");
        Unwindlens x = Sample.thread("c 0 " + MAX + "; c 1 1; c 2 " + MIN + "; + 0 1; - 2 1; c 3 65536; * 3 3");
        x.run(7);
        is("above the highest", x.register(0, 0), MIN);
        is("below the lowest", x.register(0, 2), MAX);
        is("times", x.register(0, 3), 0);
        Unwindlens y = Sample.thread("c 0 " + MIN + "; c 1 -1; * 0 1; c 2 " + MAX + "; * 2 2; c 3 0; - 3 0");
        y.run(7);
        is("the lowest times -1", y.register(0, 0), MIN);
        is("the highest times itself", y.register(0, 2), 1);
        is("0 less the lowest", y.register(0, 3), MIN);
    }

    private static void faultOf(String what, Unwindlens x, char fault, long sumBefore) {
        int time = x.time();
        is(what + ": steps", x.run(9), 1);
        is(what + ": state", x.state(0), 'f');
        is(what + ": fault", x.fault(0), fault);
        is(what + ": nothing else is done", x.checksum(), sumBefore - 'r' + 'f');
        is(what + ": time", x.time(), time + 1);
    }

    /** A thread with so many words on its stack that stands at an instruction. */
    private static Unwindlens sized(int words, char kind, int a, int b) {
        Unwindlens x = new Unwindlens();
        Sample.code(x, "k 0 0; n 0 0");
        x.code(kind, a, b);
        x.function(0, 2);
        x.thread(0);
        if (words > 0) {
            x.run(words);
        }
        x.jump(0, 2);
        return x;
    }

    private static void faults() {
        DOC.section("Faults.");
        says("Faults. A thread stops with a fault, of several the first told here, nothing else being done:");
        Unwindlens several = sized(40, 'k', 0, 5);
        faultOf("full, and no function", several, 'o', several.checksum());
        is("no more steps", several.run(9), 0);
        is("none can go", several.reason(), 'd');
        Unwindlens room = sized(39, 'k', 0, 5);
        faultOf("no function alone", room, 'f', room.checksum());
        says("'o' the stack would have more than 40 words,");
        Unwindlens full = sized(40, 'k', 0, 0);
        faultOf("k with 40", full, 'o', full.checksum());
        Unwindlens last = sized(39, 'k', 0, 0);
        is("k with 39", last.run(1), 1);
        is("is right", last.state(0), 'r');
        DOC.is("40 words", last.meanStack(), 40.0);
        for (int words = 0; words <= 4; words++) {
            Unwindlens e = sized(40 - words, 'e', 0, words);
            faultOf("e of " + words + " to 41", e, 'o', e.checksum());
            Unwindlens right = sized(39 - words, 'e', 0, words);
            right.run(1);
            is("e of " + words + " to 40", right.state(0), 'r');
            DOC.is("40 words", right.meanStack(), 40.0);
        }
    }

    private static void faultsOfStacks() {
        says("'u' there is no such word to take off, or no such slot, or the base is above the size for 'x',");
        Unwindlens empty = sized(0, 'x', 0, 0);
        faultOf("x without a word", empty, 'u', empty.checksum());
        Unwindlens low = sized(1, 'x', 0, 0);
        faultOf("x of the base 0", low, 'u', low.checksum());
        int[] bases = {-1, MIN, 4, 5, MAX};
        for (int base : bases) {
            Unwindlens x = Lab.stack(base, 1, 2, 3);
            x.jump(0, 6);
            faultOf("x of the base " + base, x, 'u', x.checksum());
        }
        for (int base = 1; base <= 3; base++) {
            Unwindlens x = Lab.stack(base, 1, 2, 3);
            Lab.at(x, 6);
            is("x of a base that is not above the size", x.state(0), 'r');
            is("takes off", x.checksum(), new Whole()
                    .thread(7, base, registers(), 'r', java.util.Arrays.copyOf(new int[] {1, 2, 3}, base - 1)).sum());
        }
        for (char kind : new char[] {'l', 's'}) {
            for (int base : new int[] {-3, -1, 3, 2, MAX, MAX - 1, MIN}) {
                Unwindlens x = Lab.stack(base, 1, 2, 3);
                int slot = base == 2 ? 1 : base == -3 ? 2 : 0;
                x.jump(0, x.code(kind, 0, slot));
                faultOf(kind + " slot " + slot + " at " + base, x, 'u', x.checksum());
            }
            Unwindlens round = Lab.stack(MAX, 1, 2, 3);
            round.jump(0, round.code(kind, 0, 3));
            faultOf(kind + " where the slot goes round", round, 'u', round.checksum());
            Unwindlens right = Lab.stack(-3, 1, 2, 3);
            right.jump(0, right.code(kind, 0, 3));
            right.run(1);
            is("slot 3 at -3", right.state(0), 'r');
        }
        Unwindlens r = sized(0, 'r', 0, 0);
        r.run(9);
        is("r without a word is none", r.state(0), 'd');
        says("'p' there is no instruction at its place,");
        Unwindlens behind = Sample.thread("n 0 0");
        behind.run(1);
        faultOf("behind the code", behind, 'p', behind.checksum());
        Unwindlens jump = Sample.thread("c 0 1; j 0 59");
        jump.run(2);
        faultOf("the place 59", jump, 'p', jump.checksum());
        for (int place : new int[] {-1, MIN, MAX, 10, 60}) {
            Unwindlens x = Lab.stack(0, place);
            Lab.at(x, 5);
            is("gone to", x.frame(0, 0, 'p'), place);
            faultOf("the place " + place, x, 'p', x.checksum());
        }
        Unwindlens whole = new Unwindlens();
        for (int place = 0; place < 60; place++) {
            whole.code('n', 0, 0);
        }
        whole.function(0, 59);
        whole.thread(0);
        whole.run(60);
        faultOf("behind 60 instructions", whole, 'p', whole.checksum());
        Unwindlens later = Sample.thread("n 0 0");
        later.run(1);
        later.code('h', 0, 0);
        later.run(9);
        is("one that was told in time is none", later.state(0), 'd');
        says("'f' there is no such function.");
        for (int function = 1; function < 6; function++) {
            Unwindlens x = sized(3, 'k', 0, function);
            faultOf("function " + function, x, 'f', x.checksum());
        }
        Unwindlens told = sized(0, 'k', 0, 1);
        told.code('h', 0, 0);
        told.function(3, 3);
        told.run(9);
        is("one that was told in time is none", told.state(0), 'd');
    }

    private static void functionsAndThreads() {
        DOC.section("Functions");
        says("Functions and threads. At most 6 functions are numbered from 0, each of the places from a first one to"
                + " a last one, apart from others.");
        Unwindlens x = new Unwindlens();
        Sample.code(x, "n 0 0; n 0 0; n 0 0; n 0 0; n 0 0; n 0 0; n 0 0; n 0 0");
        is("two places", x.function(1, 2), 0);
        for (int first = 0; first <= 2; first++) {
            int one = first;
            fails("has the place 2", UNSUPPORTED, x, () -> x.function(one, 2));
            fails("has the places 2 and 3", UNSUPPORTED, x, () -> x.function(one, 3));
        }
        fails("has the place 1", UNSUPPORTED, x, () -> x.function(0, 1));
        int[] places = {0, 3, 4, 5, 6};
        for (int function = 1; function < 6; function++) {
            is("one place", x.function(places[function - 1], places[function - 1]), function);
        }
        fails("seventh", STATE, x, () -> x.function(7, 7));
        for (int function = 0; function < 3; function++) {
            is("thread", x.thread(2 * function), function);
        }
        is("the first of 0", x.frame(0, 0, 'p'), 1);
        is("the places of 0", x.frame(0, 0, 'f'), 0);
        x.jump(0, 2);
        is("its last place", x.frame(0, 0, 'f'), 0);
        x.jump(0, 3);
        is("behind it", x.frame(0, 0, 'f'), 2);
        x.jump(0, 7);
        is("in none", x.frame(0, 0, 'f'), -1);
        says("At most 3 threads are numbered from 0, each beginning at the first place of a function.");
        Unwindlens y = Sample.functions();
        is("first", y.thread(1), 0);
        is("second", y.thread(0), 1);
        is("third", y.thread(1), 2);
        is("at the first place of 1", y.frame(0, 0, 'p'), 10);
        is("at the first place of 0", y.frame(1, 0, 'p'), 0);
        is("at the first place of 1 too", y.frame(2, 0, 'p'), 10);
        fails("fourth", STATE, y, () -> y.thread(0));
        y.run(500);
        is("all are done", y.state(2), 'd');
        fails("also behind their end", STATE, y, () -> y.thread(0));
        says("A thread is ready 'r', done 'd', or stopped by a fault 'f';");
        Unwindlens z = Sample.functions();
        for (int thread = 0; thread < 3; thread++) {
            z.thread(1);
            is("ready", z.state(thread), 'r');
        }
        z.jump(0, 13);
        z.jump(1, 8);
        z.run(3);
        is("done", z.state(0), 'd');
        is("fault", z.state(1), 'f');
        is("ready still", z.state(2), 'r');
        says("a ready one can be held.");
        z.hold(2, true);
        is("does not go", z.run(9), 0);
        is("is ready", z.state(2), 'r');
        z.hold(2, false);
        is("goes", z.run(9), 9);
    }

    private static void steps() {
        says("A step is one instruction of a thread that is ready and not held, in turn by numbers, the next one behind"
                + " that which went last, 0 at first;");
        Unwindlens x = Sample.thread("n 0 0; c 3 1; j 3 0; h 0 0");
        x.thread(0);
        x.thread(0);
        int[] turns = {0, 1, 2, 0, 1, 2, 0};
        for (int thread : turns) {
            goes(x, thread);
        }
        x.hold(1, true);
        goes(x, 2);
        goes(x, 0);
        goes(x, 2);
        x.hold(1, false);
        goes(x, 0);
        goes(x, 1);
        x.jump(2, 3);
        x.run(1);
        is("2 is done", x.state(2), 'd');
        goes(x, 0);
        goes(x, 1);
        goes(x, 0);
        x.hold(0, true);
        goes(x, 1);
        goes(x, 1);
        x.hold(1, true);
        is("none can go", x.run(1), 0);
        x.hold(0, false);
        x.hold(1, false);
        goes(x, 0);
        x.stepLine(0, 'i');
        goes(x, 1);
        Unwindlens late = Sample.thread("c 3 1; j 3 0");
        late.run(3);
        late.thread(0);
        goes(late, 1);
        goes(late, 0);
        Unwindlens first = Sample.thread("c 3 1; j 3 0");
        first.thread(0);
        first.hold(0, true);
        goes(first, 1);
        goes(first, 1);
        first.hold(0, false);
        goes(first, 0);
        says("the time is 1 more by each, also by a fault.");
        Unwindlens y = Sample.thread("n 0 0; h 0 0");
        y.thread(0);
        for (int time = 1; time <= 3; time++) {
            y.run(1);
            is("time", y.time(), time);
        }
        y.jump(1, 0);
        y.patch(0, 'k', 0, 5);
        y.run(1);
        is("a fault", y.state(1), 'f');
        is("by it", y.time(), 4);
        y.run(9);
        is("none can go", y.time(), 4);
    }

    /** The thread that is told is the one that makes the next step. */
    private static void goes(Unwindlens x, int thread) {
        int[] places = new int[3];
        for (int other = 0; other < 3; other++) {
            places[other] = placeOf(x, other);
        }
        is("one step", x.run(1), 1);
        for (int other = 0; other < 3; other++) {
            is("goes or stands, thread " + other, placeOf(x, other) == places[other] ? 0 : 1, other == thread ? 1 : 0);
        }
    }

    private static int placeOf(Unwindlens x, int thread) {
        try {
            return x.frame(thread, 0, 'p');
        } catch (IndexOutOfBoundsException e) {
            return -1;
        }
    }

    private static void lines() {
        DOC.section("Lines.");
        says("Lines. A place can have a line, 0 to 99.");
        Unwindlens x = Sample.base();
        is("none", x.line(10, 0), -1);
        is("lowest", x.line(10, 99), 0);
        is("highest", x.line(10, -1), 99);
        fails("100", ARGUMENT, x, () -> x.line(10, 100));
        fails("-2", ARGUMENT, x, () -> x.line(10, -2));
        says("A line begins at a place that has it if the place ahead has not, or if it is the first place of a"
                + " function.");
        Unwindlens y = new Unwindlens();
        Sample.code(y, "n 0 0; n 0 0; n 0 0; n 0 0; n 0 0; n 0 0; n 0 0; n 0 0; h 0 0; h 0 0");
        y.function(2, 3);
        y.function(4, 6);
        y.thread(0);
        int[] lines = {5, 5, 5, 5, 5, 5, 7, 5, 5, 0};
        for (int place = 0; place < 10; place++) {
            y.line(place, lines[place]);
        }
        y.stopLine(5);
        begins(y, 5, 0, 2, 4, 7);
        begins(y, 7, 6);
        begins(y, 0, 9);
        y.line(7, -1);
        begins(y, 5, 0, 2, 4, 8);
        y.line(0, -1);
        begins(y, 5, 1, 2, 4, 8);
        fails("a place without a line begins none", ELEMENT, y, () -> y.stopLine(-1));
        y.line(6, -1);
        fails("a line that no place has", ELEMENT, y, () -> y.stopLine(7));
    }

    /** The line begins at these places and no others: a breakpoint at it stops there. */
    private static void begins(Unwindlens y, int line, int... places) {
        int breakpoint = y.stopLine(line);
        for (int other = 0; other < breakpoint; other++) {
            y.pass(other, -1);
        }
        for (int place = 0; place < 10; place++) {
            boolean isDue = false;
            for (int due : places) {
                isDue |= due == place;
            }
            y.jump(0, place);
            if (y.run(1) == 1 && y.state(0) != 'r') {
                is("no line begins at " + place, isDue ? 1 : 0, 0);
                y.back(1);
            } else {
                is("the line begins at " + place, y.reason() == 'b' ? 1 : 0, isDue ? 1 : 0);
            }
        }
        y.pass(breakpoint, -1);
    }

    private static void rules() {
        DOC.section("Rules.");
        says("Rules. A place has the rule 'i' or 'o' told for it, or else, in a function, that of the nearest place"
                + " ahead of it in that with one;");
        Unwindlens x = new Unwindlens();
        Sample.code(x, "n 0 0; n 0 0; n 0 0; n 0 0; n 0 0; n 0 0; n 0 0; n 0 0");
        x.function(1, 4);
        x.function(5, 6);
        for (int place : new int[] {0, 2, 7}) {
            x.rule(place, 'i');
        }
        DOC.is("told", rulesOf(x, 8), "ioiiiooi");
        x.rule(3, 'o');
        DOC.is("the nearest", rulesOf(x, 8), "ioiooooi");
        x.rule(3, '-');
        DOC.is("none of its own", rulesOf(x, 8), "ioiiiooi");
        x.rule(1, 'i');
        x.rule(2, '-');
        DOC.is("of the first place", rulesOf(x, 8), "iiiiiooi");
        x.rule(4, 'o');
        DOC.is("of the last place", rulesOf(x, 8), "iiiioooi");
        says("'o' without.");
        x.rule(1, '-');
        DOC.is("without", rulesOf(x, 8), "iooooooi");
        x.rule(0, '-');
        x.rule(7, '-');
        DOC.is("without a function", rulesOf(x, 8), "oooooooo");
    }

    /** The rules of the places, asked by telling each one that it has none of its own and then telling it again. */
    private static String rulesOf(Unwindlens x, int places) {
        StringBuilder rules = new StringBuilder();
        for (int place = 0; place < places; place++) {
            char rule = x.rule(place, '-');
            char without = x.rule(place, '-');
            if (rule != without) {
                x.rule(place, rule);
            }
            rules.append(rule);
        }
        return rules.toString();
    }

    private static void frameIs(Unwindlens x, int frame, int place, int base, int size) {
        is("place of " + frame, x.frame(0, frame, 'p'), place);
        is("base of " + frame, x.frame(0, frame, 'b'), base);
        // Each slot from the base on is there if it is below the size of the frame.
        for (int slot = 0; slot < 4; slot++) {
            boolean isThere = base + slot >= 0 && base + slot < size;
            is("slot " + slot + " of " + frame, x.see(0, frame, (char) ('w' + slot)), isThere ? 'v' : 'g');
        }
    }

    private static void frames() {
        says("A thread has as its first frame its place, base and size;");
        for (int base = -1; base < 5; base++) {
            Unwindlens x = Lab.stack(base, 0, 0, 0);
            frameIs(x, 0, 8, base, 3);
            x.jump(0, 3);
            frameIs(x, 0, 3, base, 3);
        }
        says("if the place has the rule 'i', the next frame has as its place the word 2 below the base, less 1, as its"
                + " base the word 1 below it, as its size the base less 2;");
        Unwindlens x = Lab.stack(3, 0, 8, 1);
        x.rule(8, 'i');
        is("frames", x.frames(0), 2);
        frameIs(x, 1, 7, 1, 1);
        Unwindlens low = Lab.stack(2, 9, 0, 0);
        low.rule(8, 'i');
        is("at the lowest words, to a frame of the size 0", low.frames(0), 2);
        frameIs(low, 1, 8, 0, 0);
        Unwindlens negative = Lab.stack(3, 0, 8, -2);
        negative.rule(8, 'i');
        frameIs(negative, 1, 7, -2, 1);
        says("otherwise the word 1 below the size, less 1, the same base, and the size less 1.");
        Unwindlens y = Lab.stack(1, 3, 8, 1);
        is("frames of all three", y.frames(0), 4);
        frameIs(y, 1, 0, 1, 2);
        frameIs(y, 2, 7, 1, 1);
        frameIs(y, 3, 2, 1, 0);
        y.rule(7, 'i');
        is("by the rule of the place of the frame", y.frames(0), 3);
    }

    private static void noNextFrame() {
        says("There is no next frame if a word that is needed is not there,");
        int[] bases = {1, 0, -1, MIN, MIN + 1, 4, 5, MAX, 3, 2};
        int[] dues = {1, 1, 1, 1, 1, 1, 1, 1, 2, 2};
        for (int i = 0; i < bases.length; i++) {
            Unwindlens x = Lab.stack(bases[i], 5, 5, 5);
            x.rule(8, 'i');
            is("rule i at the base " + bases[i], x.frames(0) > 1 ? 2 : 1, dues[i]);
        }
        Unwindlens empty = Lab.stack(0);
        is("rule o of an empty stack", empty.frames(0), 1);
        says("if its place has no instruction,");
        int[] words = {0, 11, -5, MIN, MAX, 1, 10};
        int[] frames = {1, 1, 1, 1, 1, 2, 2};
        for (int i = 0; i < words.length; i++) {
            Unwindlens x = Lab.stack(0, words[i]);
            is("rule o, the word " + words[i], x.frames(0), frames[i]);
            Unwindlens inner = Lab.stack(2, words[i], 0);
            inner.rule(8, 'i');
            is("rule i, the word " + words[i], inner.frames(0), frames[i]);
        }
        says("if the size of the frame from which one goes on is 0,");
        Unwindlens zero = Lab.stack(2, 9, 2);
        zero.rule(8, 'i');
        is("though the words are there", zero.frames(0), 2);
        frameIs(zero, 1, 8, 2, 0);
        says("or behind 12 such frames.");
        Unwindlens x = Sample.thread("k 0 0");
        for (int words11 = 1; words11 <= 11; words11++) {
            x.run(1);
            is("frames", x.frames(0), words11 + 1);
        }
        x.run(1);
        is("of 12 words", x.frames(0), 12);
        x.run(28);
        is("of 40 words", x.frames(0), 12);
        Unwindlens loop = Lab.stack(3, 0, 9, 3);
        loop.rule(8, 'i');
        is("one that leads to itself", loop.frames(0), 12);
        says("A place without an instruction has the rule 'o'.");
        Unwindlens none = Lab.stack(2, 9, 5, 77);
        none.rule(9, 'i');
        Lab.at(none, 5);
        is("place", none.frame(0, 0, 'p'), 77);
        is("by the rule o", none.frames(0), 3);
        frameIs(none, 1, 4, 2, 1);
    }

    private static void inlined() {
        DOC.section("Inlined.");
        says("Inlined. At most 6 rows of places, in no function partly, are calls that were inlined, each of a"
                + " function, with the line of the call;");
        Unwindlens x = Sample.functions();
        fails("its last place is in a function", UNSUPPORTED, x, () -> x.inlined(9, 10, 0, 0));
        fails("around a function", UNSUPPORTED, x, () -> x.inlined(0, 13, 0, 0));
        x.thread(1);
        for (int call = 0; call < 4; call++) {
            is("call", x.inlined(10, 10 + call, 0, call + 90), call);
        }
        is("fifth", x.inlined(0, 9, 0, 0), 4);
        is("sixth", x.inlined(0, 0, 1, 99), 5);
        fails("seventh", STATE, x, () -> x.inlined(1, 1, 0, 0));
        is("its function", x.frame(0, 0, 'f'), 0);
        is("the line of the call", x.frame(0, 1, 'l'), 90);
        Unwindlens outside = new Unwindlens();
        Sample.code(outside, "n 0 0; n 0 0; n 0 0; n 0 0");
        outside.function(0, 0);
        is("in no function at all", outside.inlined(1, 3, 0, 5), 0);
        fails("no function may be a part of it", UNSUPPORTED, outside, () -> outside.function(2, 2));
        is("but may have it", outside.function(1, 3), 1);
        says("two of these are one within the other, or apart.");
        Unwindlens y = Sample.functions();
        y.inlined(2, 5, 0, 0);
        fails("begins ahead, ends within", UNSUPPORTED, y, () -> y.inlined(1, 2, 0, 0));
        fails("begins within, ends behind", UNSUPPORTED, y, () -> y.inlined(5, 6, 0, 0));
        is("within, from the first place", y.inlined(2, 4, 0, 0), 1);
        is("within, to the last place", y.inlined(5, 5, 0, 0), 2);
        is("around", y.inlined(1, 5, 0, 0), 3);
        is("apart, side by side", y.inlined(6, 7, 0, 0), 4);
        says("Each frame whose place is in some is shown as one frame more for each, innermost first;");
        Unwindlens z = Sample.base();
        z.run(3);
        is("frames", z.frames(0), 2);
        z.inlined(1, 5, 1, 11);
        z.inlined(11, 11, 0, 14);
        z.inlined(1, 1, 0, 13);
        z.inlined(1, 3, 1, 12);
        z.inlined(2, 3, 1, 15);
        is("three and one more", z.frames(0), 6);
        int[] inner = {1, 1, 1, 0, 1, 0};
        int[] functions = {0, 1, 1, 0, 0, 1};
        for (int frame = 0; frame < 6; frame++) {
            is("inlined", z.frame(0, frame, 'i'), inner[frame]);
            is("function", z.frame(0, frame, 'f'), functions[frame]);
            is("place", z.frame(0, frame, 'p'), frame < 4 ? 1 : 11);
        }
        says("its line is that of the place, and that of the frame behind each of these the line of its call.");
        z.line(1, 50);
        z.line(11, 60);
        int[] lines = {50, 13, 12, 11, 60, 14};
        for (int frame = 0; frame < 6; frame++) {
            is("line", z.frame(0, frame, 'l'), lines[frame]);
        }
        z.line(1, -1);
        is("none of the place", z.frame(0, 0, 'l'), -1);
        is("that of the call", z.frame(0, 1, 'l'), 13);
    }

    private static void scopes() {
        DOC.section("Scopes");
        says("Scopes and names. At most 12 scopes are rows of places, and two of them, or one and an inlined call, are"
                + " one within the other, or apart;");
        Unwindlens x = Sample.functions();
        is("first", x.scope(2, 5), 0);
        fails("begins ahead, ends within", UNSUPPORTED, x, () -> x.scope(1, 2));
        fails("begins within, ends behind", UNSUPPORTED, x, () -> x.scope(5, 6));
        is("within", x.scope(2, 4), 1);
        is("around", x.scope(2, 6), 2);
        is("apart", x.scope(7, 7), 3);
        x.inlined(8, 9, 1, 0);
        fails("partly in a call", UNSUPPORTED, x, () -> x.scope(7, 8));
        is("within a call", x.scope(9, 9), 4);
        is("around a call", x.scope(7, 9), 5);
        fails("a call partly in a scope", UNSUPPORTED, x, () -> x.inlined(6, 7, 1, 0));
        is("a call with the places of one", x.inlined(2, 4, 1, 0), 1);
        for (int scope = 6; scope < 12; scope++) {
            is("more", x.scope(13, 13), scope);
        }
        fails("13th", STATE, x, () -> x.scope(13, 13));
        says("two that are the same are one within the other, the later one inside.");
        Unwindlens same = Sample.base();
        for (int scope = 0; scope < 3; scope++) {
            same.scope(10, 13);
        }
        named(same, 1, 'a', 1);
        named(same, 0, 'a', 0);
        is("the later scope, not the later variable", same.value(0, 0, 'a', 0), 1);
        named(same, 2, 'a', 2);
        is("the last scope", same.value(0, 0, 'a', 0), 2);
        says("A scope belongs to the innermost inlined call in which it lies, perhaps with the same places, if any, and"
                + " only the frame of that sees it.");
        Unwindlens y = Sample.base();
        y.inlined(10, 12, 0, 1);
        y.inlined(10, 11, 0, 2);
        int[] lasts = {13, 12, 11, 10};
        String[] seen = {"nnv", "nvn", "vnn", "vnn"};
        for (int scope = 0; scope < 4; scope++) {
            y.scope(10, lasts[scope]);
            named(y, scope, (char) ('a' + scope), scope);
            for (int frame = 0; frame < 3; frame++) {
                is("the scope to " + lasts[scope] + " at the frame " + frame,
                        y.see(0, frame, (char) ('a' + scope)), seen[scope].charAt(frame));
            }
        }
        y.jump(0, 12);
        is("in the outer call alone", y.see(0, 0, 'b'), 'v');
        is("its place is not in the scope", y.see(0, 0, 'c'), 'n');
        is("behind it", y.see(0, 1, 'a'), 'v');
    }

    /** A variable that is a number itself. */
    private static void named(Unwindlens x, int scope, char letter, int number) {
        int variable = x.variable(scope, letter, 'i', 1);
        x.where(variable, 0, 13, '#', number);
    }

    private static void variables() {
        says("At most 20 variables are numbered from 0, each of a scope, with a small letter as its name, a kind, 'i' a"
                + " number, 'b' a truth, 'c' a character, and how many words it has, 1 to 4.");
        Unwindlens x = Sample.base();
        x.scope(10, 13);
        String kinds = "ibc";
        for (int variable = 0; variable < 20; variable++) {
            char letter = variable == 19 ? 'z' : (char) ('a' + variable);
            is("number", x.variable(0, letter, kinds.charAt(variable % 3), 1 + variable % 4), variable);
        }
        fails("21st", STATE, x, () -> x.variable(0, 'a', 'i', 1));
        for (int variable = 0; variable < 4; variable++) {
            x.where(variable, 10, 13, 'g', 0);
        }
        DOC.is("a number", Sample.shown(x, 0, 0, 'a'), "0");
        DOC.is("truths", Sample.shown(x, 0, 0, 'b'), "{false, false}");
        DOC.is("characters", Sample.shown(x, 0, 0, 'c'), "{0, 0, 0}");
        DOC.is("four", Sample.shown(x, 0, 0, 'd'), "{0, 0, 0, 0}");
        is("last letter", x.see(0, 0, 'z'), 'g');
        says("A name means, at a frame, the variable of that name, the latest told, in the innermost scope with one that"
                + " the frame sees and in which its place is.");
        Unwindlens y = Sample.base();
        y.scope(10, 13);
        y.scope(10, 12);
        y.scope(10, 11);
        y.scope(12, 12);
        named(y, 1, 'a', 1);
        named(y, 0, 'a', 0);
        named(y, 3, 'a', 3);
        named(y, 0, 'b', 10);
        named(y, 0, 'b', 11);
        named(y, 2, 'c', 12);
        // The outer ones are told behind the inner ones.
        Unwindlens outer = Sample.base();
        for (int scope = 0; scope < 3; scope++) {
            outer.scope(10, 11 + scope);
            named(outer, scope, 'a', scope);
        }
        for (int scope = 0; scope < 3; scope++) {
            outer.jump(0, 11 + scope);
            is("the innermost, though told first, at " + (11 + scope), outer.value(0, 0, 'a', 0), scope);
        }
        int[] places = {10, 11, 12, 13};
        int[] values = {1, 1, 3, 0};
        for (int i = 0; i < 4; i++) {
            y.jump(0, places[i]);
            is("innermost with one at " + places[i], y.value(0, 0, 'a', 0), values[i]);
            is("the latest told at " + places[i], y.value(0, 0, 'b', 0), 11);
            is("only in the scope at " + places[i], y.see(0, 0, 'c'), i < 2 ? 'v' : 'n');
        }
        y.jump(0, 9);
        is("ahead of all scopes", y.see(0, 0, 'a'), 'n');
        y.jump(0, 10);
        int last = y.variable(1, 'a', 'i', 1);
        is("the latest told, though gone", y.see(0, 0, 'a'), 'g');
        y.where(last, 11, 13, '#', 5);
        is("gone still", y.see(0, 0, 'a'), 'g');
        y.jump(0, 11);
        is("there at its place", y.value(0, 0, 'a', 0), 5);
    }

    private static void wheres() {
        DOC.section("Where");
        says("Where values are. At most 24 rows of places tell for a variable where it is:");
        Unwindlens full = Sample.base();
        full.scope(10, 13);
        full.variable(0, 'a', 'i', 1);
        full.variable(0, 'b', 'i', 1);
        for (int row = 1; row <= 24; row++) {
            is("row", full.where(row % 2, 10, 13, '#', row), row);
        }
        fails("25th", STATE, full, () -> full.where(0, 10, 13, '#', 0));
        is("23 is the last of b", full.value(0, 0, 'b', 0), 23);
        is("24 is the last of a", full.value(0, 0, 'a', 0), 24);
        says("'r' the register of a number,");
        Unwindlens r = homes("rrrr", 1);
        for (int register = 0; register < 4; register++) {
            is("register " + register, r.value(0, 0, (char) ('a' + register), 0), 60 + register);
        }
        says("'s' the slots from a number on,");
        Unwindlens s = homes("ssss", 1);
        for (int slot = 0; slot < 4; slot++) {
            is("slot " + slot, s.value(0, 0, (char) ('a' + slot), 0), 70 + slot);
        }
        Unwindlens two = homes("sss", 2);
        is("the first", two.value(0, 0, 'c', 0), 72);
        is("from it on", two.value(0, 0, 'c', 1), 73);
        says("'g' the cells from a number on,");
        Unwindlens g = homes("gggg", 4);
        for (int word = 0; word < 4; word++) {
            is("cell", g.value(0, 0, 'd', word), word == 0 ? 60 : 0);
        }
        says("'#' a number itself;");
        for (int number : new int[] {MIN, -1, 0, MAX}) {
            Unwindlens x = Sample.base();
            x.scope(10, 13);
            named(x, 0, 'n', number);
            is("number", x.value(0, 0, 'n', 0), number);
        }
        says("the latest told that has the place of the frame counts;");
        Unwindlens x = Sample.base();
        x.scope(10, 13);
        x.variable(0, 'a', 'i', 1);
        x.where(0, 10, 12, '#', 1);
        x.where(0, 11, 11, '#', 2);
        x.where(0, 10, 10, 'r', 3);
        int[] values = {0, 2, 1};
        for (int place = 10; place <= 12; place++) {
            x.jump(0, place);
            is("at " + place, x.value(0, 0, 'a', 0), values[place - 10]);
        }
        x.where(0, 12, 12, 's', 0);
        is("though it leads to nothing", x.see(0, 0, 'a'), 'g');
        says("without one it is gone.");
        x.jump(0, 13);
        is("behind all", x.see(0, 0, 'a'), 'g');
        x.scope(9, 13);
        x.variable(1, 'b', 'i', 1);
        is("none at all", x.see(0, 0, 'b'), 'g');
        x.where(0, 13, 13, '#', 8);
        is("there then", x.see(0, 0, 'a'), 'v');
    }

    /** Variables a, b .. that are in registers, slots or cells from 0, 1 .. on, behind words that tell them apart. */
    private static Unwindlens homes(String kinds, int words) {
        Unwindlens x = Sample.thread("e 0 4; c 0 70; s 0 0; c 0 71; s 0 1; c 0 72; s 0 2; c 0 73; s 0 3;"
                + "c 0 60; p 0 3; c 1 61; c 2 62; c 3 63; h 0 0");
        x.scope(0, 14);
        x.run(14);
        for (int number = 0; number < kinds.length(); number++) {
            x.variable(0, (char) ('a' + number), 'i', words);
            x.where(number, 0, 14, kinds.charAt(number), number);
        }
        return x;
    }

    private static void goneOnes() {
        says("It is gone also in a register as it is not the first frame, or inlined in it,");
        Unwindlens x = Sample.base();
        x.scope(0, 13);
        x.scope(1, 1);
        x.scope(11, 11);
        for (int scope = 0; scope < 3; scope++) {
            int variable = x.variable(scope, (char) ('a' + scope), 'i', 1);
            x.where(variable, 0, 13, 'r', 0);
        }
        x.run(3);
        is("first frame", x.value(0, 0, 'a', 0), 5);
        is("the next", x.see(0, 1, 'a'), 'g');
        is("the next, a scope of its own", x.see(0, 1, 'c'), 'g');
        x.inlined(1, 1, 1, 0);
        x.inlined(11, 11, 0, 0);
        is("inlined in the first", x.value(0, 0, 'b', 0), 5);
        is("behind that, the first itself", x.value(0, 1, 'a', 0), 5);
        is("inlined in the next", x.see(0, 2, 'c'), 'g');
        is("the next itself", x.see(0, 3, 'a'), 'g');
        says("has several words in a register or as a number,");
        for (int words = 1; words <= 4; words++) {
            is("words in a register", homes("r", words).see(0, 0, 'a'), words == 1 ? 'v' : 'g');
            is("words as a number", homes("#", words).see(0, 0, 'a'), words == 1 ? 'v' : 'g');
        }
        says("in slots that are not below the size of the frame,");
        for (int words = 1; words <= 4; words++) {
            Unwindlens y = homes("ssss", words);
            for (int slot = 0; slot < 4; slot++) {
                is(words + " from " + slot, y.see(0, 0, (char) ('a' + slot)), slot + words <= 4 ? 'v' : 'g');
            }
        }
        for (int base : new int[] {-2, -1, 0, 1, 2, 3, MAX, MAX - 2, MIN}) {
            Unwindlens y = Lab.stack(base, 1, 2, 3);
            for (int slot = 0; slot < 4; slot++) {
                int word = base + slot;
                is("slot " + slot + " at " + base, y.see(0, 0, (char) ('w' + slot)),
                        word >= 0 && word < 3 ? 'v' : 'g');
            }
        }
        Unwindlens behind = Lab.stack(0, 3, 3, 3);
        is("on the stack, but above the frame", behind.see(0, 1, 'y'), 'g');
        is("below its size", behind.see(0, 1, 'x'), 'v');
        is("first frame", behind.see(0, 0, 'y'), 'v');
        says("or in cells above 15.");
        Unwindlens z = Sample.base();
        z.scope(10, 13);
        for (int words = 1; words <= 4; words++) {
            int variable = z.variable(0, (char) ('a' + words), 'i', words);
            z.where(variable, 10, 10, 'g', 16 - words);
            z.where(variable, 11, 11, 'g', Math.min(17 - words, 15));
            is("to 15", z.see(0, 0, (char) ('a' + words)), 'v');
        }
        z.jump(0, 11);
        for (int words = 1; words <= 4; words++) {
            is("above", z.see(0, 0, (char) ('a' + words)), words == 1 ? 'v' : 'g');
        }
    }

    private static String shownOf(char kind, int... words) {
        Unwindlens x = Sample.base();
        x.scope(10, 13);
        x.variable(0, 'v', kind, words.length);
        x.where(0, 10, 12, 'g', 12);
        for (int index = 0; index < words.length; index++) {
            x.set(0, 0, 'v', index, words[index]);
        }
        return Sample.shown(x, 0, 0, 'v');
    }

    private static void shown() {
        DOC.section("Shown.");
        says("Shown. What is shown of a variable: '-' and digits as numbers are;");
        for (int number : new int[] {0, 1, -1, 9, 10, -10, 99, 100, 2147483, MAX, MAX - 1, MIN, MIN + 1}) {
            DOC.is("number", shownOf('i', number), String.valueOf(number));
        }
        says("\"true\" or \"false\" for a truth, which is true if it is not 0;");
        DOC.is("0", shownOf('b', 0), "false");
        for (int number : new int[] {1, -1, 2, MIN, MAX, 65536}) {
            DOC.is(number + " is a truth", shownOf('b', number), "true");
        }
        says("a character from 32 to 126 between two apostrophes, others as numbers;");
        for (int sign = 0; sign < 300; sign++) {
            DOC.is("sign " + sign, shownOf('c', sign), sign < 32 || sign > 126 ? "" + sign : "'" + (char) sign + "'");
        }
        DOC.is("below 0", shownOf('c', -65), "-65");
        DOC.is("one that goes round to A", shownOf('c', 65536 + 65), "65601");
        DOC.is("lowest", shownOf('c', MIN), "-2147483648");
        says("of several words '{', each with a comma and a blank between, and '}';");
        DOC.is("two", shownOf('i', 1, -2), "{1, -2}");
        DOC.is("three", shownOf('b', 1, 0, 2), "{true, false, true}");
        DOC.is("four", shownOf('c', 44, 32, 7, 125), "{',', ' ', 7, '}'}");
        DOC.is("longest", shownOf('i', MIN, MIN, MIN, MIN), "{" + MIN + ", " + MIN + ", " + MIN + ", " + MIN + "}");
        says("\"gone\".");
        for (char kind : "ibc".toCharArray()) {
            Unwindlens x = Sample.base();
            x.scope(10, 13);
            x.variable(0, 'v', kind, 1);
            DOC.is("gone", Sample.shown(x, 0, 0, 'v'), "gone");
        }
        DOC.is("several words too", Sample.shown(homes("r", 3), 0, 0, 'a'), "gone");
    }
}
