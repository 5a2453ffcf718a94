/** The promises 12 to 23 of the document, by which the target is looked at, sentence by sentence. */
public final class PromisesOfLookingTest {
    private static final Class<IndexOutOfBoundsException> INDEX = Sentences.INDEX;
    private static final Class<IllegalArgumentException> ARGUMENT = Sentences.ARGUMENT;
    private static final Class<java.util.NoSuchElementException> ELEMENT = Sentences.ELEMENT;
    private static final int MAX = Integer.MAX_VALUE;
    private static final int MIN = Integer.MIN_VALUE;
    /** Numbers of which none is that of one of two threads. */
    private static final int[] NO_THREADS = {-1, 2, 3, MIN, MAX};
    private static final Sentences DOC = new Sentences();

    private PromisesOfLookingTest() {
    }

    public static void main(String[] args) throws Exception {
        state();
        fault();
        hold();
        register();
        cell();
        time();
        frames();
        frame();
        frameNumbers();
        frameRefused();
        see();
        seeAnswers();
        value();
        valueRefused();
        show();
        showRefused();
        shown();
        DOC.end("PromisesOfLookingTest", "Promise 23");
    }

    private static void says(String text) {
        DOC.says(text);
    }

    private static void is(String what, long got, long due) {
        DOC.is(what, got, due);
    }

    private static void fails(String what, Class<? extends RuntimeException> due, Unwindlens x,
            java.util.concurrent.Callable<?> call) {
        DOC.fails(what, due, x, call);
    }

    /** Two threads, of which 0 is in the function 0, with its number x there, and 1 at the first place of 1. */
    private static Unwindlens two() {
        Unwindlens x = Sample.named();
        x.run(4);
        x.thread(1);
        return x;
    }

    /** A thread at a place without an instruction. */
    private static Unwindlens lost() {
        Unwindlens x = Sample.thread("n 0 0");
        x.run(1);
        return x;
    }

    private static void state() throws Exception {
        DOC.promise(12);
        says("Returns the state of a thread.");
        Unwindlens x = two();
        is("at first", x.state(1), 'r');
        is("behind steps", x.state(0), 'r');
        says("- `thread`: the thread");
        x.hold(0, true);
        x.run(500);
        is("the thread 1", x.state(1), 'd');
        is("the thread 0", x.state(0), 'r');
        says("Returns the state.");
        x.hold(0, false);
        x.patch(2, 'k', 0, 5);
        x.run(1);
        is("stopped by a fault", x.state(0), 'f');
        x.back(1);
        is("ready behind going back", x.state(0), 'r');
        Unwindlens held = two();
        held.hold(1, true);
        is("one that is held is ready", held.state(1), 'r');
        says("Throws `IndexOutOfBoundsException` if there is no such thread");
        for (int thread : NO_THREADS) {
            fails("thread " + thread, INDEX, x, () -> x.state(thread));
        }
        fails("none at all", INDEX, Sample.functions(), () -> Sample.functions().state(0));
    }

    private static void fault() throws Exception {
        DOC.promise(13);
        says("Returns the fault of a thread.");
        Unwindlens x = lost();
        x.run(1);
        is("fault", x.fault(0), 'p');
        says("- `thread`: the thread");
        Unwindlens y = two();
        y.jump(1, 8);
        y.patch(2, 'k', 0, 5);
        y.run(2);
        is("of the thread 0", y.fault(0), 'f');
        is("of the thread 1", y.fault(1), 'u');
        says("Returns the letter.");
        String[] codes = {"k 0 0", "x 0 0", "n 0 0", "k 0 1"};
        for (int i = 0; i < 4; i++) {
            Unwindlens z = Sample.thread(codes[i]);
            z.run(500);
            is("of " + codes[i], z.fault(0), "oupf".charAt(i));
            z.run(500);
            is("the same later", z.fault(0), "oupf".charAt(i));
        }
        says("Throws `IndexOutOfBoundsException` if there is no such thread");
        for (int thread : NO_THREADS) {
            fails("thread " + thread, INDEX, y, () -> y.fault(thread));
        }
        says("Throws `NoSuchElementException` if it has none");
        Unwindlens none = two();
        fails("a ready one", ELEMENT, none, () -> none.fault(0));
        none.run(500);
        fails("one that is done", ELEMENT, none, () -> none.fault(0));
        y.back(2);
        fails("behind going back", ELEMENT, y, () -> y.fault(0));
    }

    private static void hold() throws Exception {
        DOC.promise(14);
        says("Holds a thread, or lets it go.");
        Unwindlens x = two();
        x.hold(1, true);
        long sum = x.checksum();
        is("it alone stands", x.run(1), 1);
        is("place", x.frame(1, 0, 'p'), 10);
        DOC.no("the other one goes", x.checksum() == sum);
        x.hold(1, false);
        x.run(1);
        is("it goes", x.frame(1, 0, 'p'), 11);
        says("- `thread`: the thread");
        x.hold(0, true);
        int place = x.frame(0, 0, 'p');
        x.run(3);
        is("the thread 0 stands", x.frame(0, 0, 'p'), place);
        is("the thread 1 goes", x.frame(1, 0, 'p'), 2);
        says("- `is`: whether it is held then");
        x.hold(1, true);
        x.hold(1, true);
        is("held", x.run(5), 0);
        x.hold(1, false);
        x.hold(1, false);
        is("not held", x.run(5), 5);
        says("Returns whether it was.");
        Unwindlens y = two();
        boolean[] holds = {false, false, true, true, false, true, false};
        for (int i = 1; i < holds.length; i++) {
            is("it was", y.hold(1, holds[i]) ? 1 : 0, holds[i - 1] ? 1 : 0);
            DOC.no("the other one was", y.hold(0, false));
        }
        says("Throws `IndexOutOfBoundsException` if there is no such thread");
        for (int thread : NO_THREADS) {
            fails("thread " + thread, INDEX, y, () -> y.hold(thread, true));
            fails("thread " + thread + " let go", INDEX, y, () -> y.hold(thread, false));
        }
        y.thread(0);
        DOC.no("one that was told later was", y.hold(2, false));
    }

    private static void register() throws Exception {
        DOC.promise(15);
        says("Returns a register of a thread.");
        Unwindlens x = Sample.thread("c 0 10; c 1 11; c 2 12; c 3 13; c 1 99; h 0 0");
        x.run(4);
        is("register", x.register(0, 1), 11);
        says("- `thread`: the thread");
        x.thread(0);
        x.run(1);
        is("of the thread 1", x.register(1, 0), 10);
        is("not yet there", x.register(1, 1), 0);
        is("of the thread 0", x.register(0, 1), 11);
        says("- `register`: the register, 0 to 3");
        for (int register = 0; register <= 3; register++) {
            is("register " + register, x.register(0, register), 10 + register);
        }
        says("Returns the word.");
        Unwindlens y = Sample.thread("c 0 " + MIN + "; c 1 " + MAX + "; c 2 -1; h 0 0");
        y.run(9);
        int[] words = {MIN, MAX, -1, 0};
        for (int register = 0; register <= 3; register++) {
            is("also of one that is done", y.register(0, register), words[register]);
        }
        says("Throws `IndexOutOfBoundsException` if there is no such thread or register");
        for (int thread : NO_THREADS) {
            fails("thread " + thread, INDEX, x, () -> x.register(thread, 0));
        }
        for (int register : new int[] {-1, 4, 5, MIN, MAX}) {
            fails("register " + register, INDEX, x, () -> x.register(0, register));
        }
    }

    private static void cell() throws Exception {
        DOC.promise(16);
        says("Returns a cell.");
        Unwindlens x = Sample.base();
        is("at first", x.cell(3), 0);
        x.run(500);
        is("cell", x.cell(3), 7);
        says("- `cell`: the cell, 0 to 15");
        Unwindlens y = new Unwindlens();
        for (int cell = 0; cell <= 15; cell++) {
            y.code('c', 0, 100 + cell);
            y.code('p', 0, cell);
        }
        y.function(0, 31);
        y.thread(0);
        y.run(32);
        for (int cell = 0; cell <= 15; cell++) {
            is("cell " + cell, y.cell(cell), 100 + cell);
        }
        says("Returns the word.");
        for (int word : new int[] {MIN, -1, MAX}) {
            Unwindlens z = Sample.thread("c 0 " + word + "; p 0 15");
            z.run(2);
            is("word", z.cell(15), word);
        }
        says("Throws `IndexOutOfBoundsException` if there is no such cell");
        for (int cell : new int[] {-1, 16, 17, MIN, MAX}) {
            fails("cell " + cell, INDEX, y, () -> y.cell(cell));
        }
    }

    private static void time() throws Exception {
        DOC.promise(17);
        says("Returns the time.");
        Unwindlens x = new Unwindlens();
        is("at first", x.time(), 0);
        is("asked again", x.time(), 0);
        says("Returns how many steps were made.");
        Unwindlens y = Sample.functions();
        y.run(5);
        is("none without threads", y.time(), 0);
        y.thread(1);
        y.thread(1);
        y.run(5);
        is("by a run", y.time(), 5);
        y.stepLine(1, 'u');
        is("by lines", y.time(), 15);
        y.back(7);
        is("less going back", y.time(), 8);
        y.call(0, 0, 1);
        is("by a call", y.time(), 18);
        y.jump(0, 13);
        is("none by a jump", y.time(), 18);
        Unwindlens many = Sample.thread("c 3 1; j 3 1");
        for (int runs = 1; runs <= 10; runs++) {
            many.run(500);
            is("also more than are kept", many.time(), 500 * runs);
        }
    }

    private static void frames() throws Exception {
        DOC.promise(18);
        says("Returns how many frames are shown of a thread.");
        Unwindlens x = Sample.base();
        is("one", x.frames(0), 1);
        x.run(2);
        is("two", x.frames(0), 2);
        says("- `thread`: the thread");
        x.thread(1);
        is("the thread 0", x.frames(0), 2);
        is("the thread 1", x.frames(1), 1);
        says("Returns how many, those that are inlined too,");
        x.inlined(10, 11, 0, 5);
        is("inlined at the frame behind", x.frames(0), 3);
        x.inlined(0, 0, 1, 5);
        is("inlined at the first one too", x.frames(0), 4);
        is("inlined in the other thread", x.frames(1), 2);
        Unwindlens deep = new Unwindlens();
        Sample.code(deep, "k 0 0; n 0 0; n 0 0; n 0 0; n 0 0; n 0 0");
        deep.function(0, 5);
        deep.thread(0);
        for (int last = 0; last <= 5; last++) {
            deep.inlined(0, last, 0, 0);
        }
        for (int words = 0; words < 15; words++) {
            is("behind " + words + " calls", deep.frames(0), 7 * Math.min(words + 1, 12));
            deep.run(1);
        }
        says("also if it is done.");
        Unwindlens done = Sample.thread("k 0 0; n 0 0; h 0 0");
        done.run(2);
        done.jump(0, 2);
        done.run(1);
        is("done", done.state(0), 'd');
        is("as before", done.frames(0), 3);
        is("also if it is lost", lost().frames(0), 1);
        says("Throws `IndexOutOfBoundsException` if there is no such thread");
        for (int thread : NO_THREADS) {
            fails("thread " + thread, INDEX, x, () -> x.frames(thread));
        }
        fails("none at all", INDEX, Sample.functions(), () -> Sample.functions().frames(0));
    }

    private static void frame() throws Exception {
        DOC.promise(19);
        says("Returns something of a frame.");
        Unwindlens x = two();
        is("its place", x.frame(0, 0, 'p'), 2);
        x.run(1);
        is("its place behind a step", x.frame(0, 0, 'p') + x.frame(1, 0, 'p'), 2 + 11);
        says("- `thread`: the thread");
        x.run(1);
        is("the thread 0", x.frame(0, 0, 'p'), 3);
        is("the thread 1", x.frame(1, 0, 'p'), 11);
        says("- `frame`: the frame, from 0");
        is("the first one", x.frame(0, 0, 'p'), 3);
        is("the next one", x.frame(0, 1, 'p'), 11);
        fails("no more", INDEX, x, () -> x.frame(0, 2, 'p'));
        fails("one of the thread 1", INDEX, x, () -> x.frame(1, 1, 'p'));
    }

    private static void frameNumbers() {
        Unwindlens x = two();
        says("- `what`: 'f' the function, -1 for none,");
        is("of the first one", x.frame(0, 0, 'f'), 0);
        is("of the next one", x.frame(0, 1, 'f'), 1);
        is("of no instruction", lost().frame(0, 0, 'f'), -1);
        Unwindlens none = Sample.base();
        none.jump(0, none.code('n', 0, 0));
        is("of no function", none.frame(0, 0, 'f'), -1);
        x.inlined(2, 3, 1, 44);
        is("of an inlined call", x.frame(0, 0, 'f'), 1);
        is("that around it", x.frame(0, 1, 'f'), 0);
        says("'p' the place,");
        is("of an inlined call", x.frame(0, 0, 'p'), 2);
        is("the same around it", x.frame(0, 1, 'p'), 2);
        is("that of the call", x.frame(0, 2, 'p'), 11);
        is("also without an instruction", lost().frame(0, 0, 'p'), 1);
        says("'l' the line, -1 for none,");
        is("none", x.frame(0, 0, 'l'), -1);
        x.line(2, 0);
        is("0", x.frame(0, 0, 'l'), 0);
        is("that of the call", x.frame(0, 1, 'l'), 44);
        is("none of the next one", x.frame(0, 2, 'l'), -1);
        x.line(11, 99);
        is("99", x.frame(0, 2, 'l'), 99);
        is("without an instruction", lost().frame(0, 0, 'l'), -1);
        says("'i' 1 if it is inlined, else 0,");
        is("inlined", x.frame(0, 0, 'i'), 1);
        is("not inlined", x.frame(0, 1, 'i'), 0);
        is("nor behind it", x.frame(0, 2, 'i'), 0);
        says("'b' the base");
        is("of the first one", x.frame(0, 0, 'b'), 2);
        is("around it", x.frame(0, 1, 'b'), 2);
        is("of the next one", x.frame(0, 2, 'b'), 0);
        for (int base : new int[] {-1, MIN, MAX}) {
            is("any base", Lab.stack(base, 1).frame(0, 0, 'b'), base);
        }
        says("Returns the number.");
        Unwindlens whole = two();
        int[][] due = {{0, 2, -1, 0, 2}, {1, 11, -1, 0, 0}};
        for (int frame = 0; frame < 2; frame++) {
            for (int what = 0; what < 5; what++) {
                is("number", whole.frame(0, frame, "fplib".charAt(what)), due[frame][what]);
            }
        }
    }

    private static void frameRefused() {
        says("Throws `IndexOutOfBoundsException` if there is no such thread or frame");
        Unwindlens x = two();
        for (int thread : NO_THREADS) {
            fails("thread " + thread, INDEX, x, () -> x.frame(thread, 0, 'p'));
        }
        for (int frame : new int[] {-1, 2, 3, MIN, MAX}) {
            fails("frame " + frame, INDEX, x, () -> x.frame(0, frame, 'p'));
        }
        fails("nor a thing", INDEX, x, () -> x.frame(0, 2, 'q'));
        says("Throws `IllegalArgumentException` if there is no such thing");
        for (int sign = 0; sign < 256; sign++) {
            char what = (char) sign;
            if ("fplib".indexOf(what) < 0) {
                fails("sign " + sign, ARGUMENT, x, () -> x.frame(0, 1, what));
            }
        }
        fails("one that goes round to p", ARGUMENT, x, () -> x.frame(0, 0, (char) (256 + 'p')));
    }

    private static void see() throws Exception {
        DOC.promise(20);
        says("Returns how a name is at a frame.");
        Unwindlens x = two();
        is("there", x.see(0, 0, 'x'), 'v');
        is("in no scope", x.see(0, 1, 'x'), 'n');
        says("- `thread`: the thread");
        is("in another thread", x.see(1, 0, 'x'), 'n');
        x.jump(1, 2);
        is("gone there", x.see(1, 0, 'x'), 'g');
        says("- `frame`: the frame, from 0");
        x.scope(10, 13);
        x.variable(1, 'x', 'i', 1);
        is("another one at the next frame", x.see(0, 1, 'x'), 'g');
        fails("no more", INDEX, x, () -> x.see(0, 2, 'x'));
        says("- `letter`: the name");
        for (char letter = 'a'; letter <= 'z'; letter++) {
            is("name " + letter, x.see(0, 0, letter), letter == 'x' ? 'v' : 'n');
        }
    }

    private static void seeAnswers() {
        says("Returns 'n' if there is no such name,");
        Unwindlens x = two();
        is("never told", x.see(0, 0, 'y'), 'n');
        is("its place is not in the scope", x.see(1, 0, 'x'), 'n');
        is("without an instruction", lost().see(0, 0, 'x'), 'n');
        says("'g' if it is gone,");
        x.variable(0, 'y', 'i', 1);
        is("nowhere", x.see(0, 0, 'y'), 'g');
        x.where(1, 3, 9, 'r', 0);
        is("at other places", x.see(0, 0, 'y'), 'g');
        x.where(1, 2, 2, 's', 2);
        is("in no slot of the frame", x.see(0, 0, 'y'), 'g');
        says("'v' if it is there.");
        for (char kind : "rsg#".toCharArray()) {
            x.where(1, 2, 2, kind, 1);
            is("there as " + kind, x.see(0, 0, 'y'), 'v');
        }
        says("Throws `IndexOutOfBoundsException` if there is no such thread or frame");
        for (int thread : NO_THREADS) {
            fails("thread " + thread, INDEX, x, () -> x.see(thread, 0, 'x'));
        }
        for (int frame : new int[] {-1, 2, 3, MIN, MAX}) {
            fails("frame " + frame, INDEX, x, () -> x.see(0, frame, 'x'));
        }
        fails("nor a letter", INDEX, x, () -> x.see(0, 2, 'X'));
        says("Throws `IllegalArgumentException` if it is no small letter");
        for (int sign = 0; sign < 256; sign++) {
            char letter = (char) sign;
            if (letter < 'a' || letter > 'z') {
                fails("sign " + sign, ARGUMENT, x, () -> x.see(0, 0, letter));
            }
        }
        fails("one that goes round to x", ARGUMENT, x, () -> x.see(0, 0, (char) (256 + 'x')));
    }

    /** In the function 0 the words w in the slots 0 and 1, in 1 the words w in the cells 3 to 6. */
    private static Unwindlens worded() {
        Unwindlens x = two();
        x.variable(0, 'w', 'i', 2);
        x.where(1, 0, 9, 's', 0);
        x.scope(10, 13);
        x.variable(1, 'w', 'i', 4);
        x.where(2, 10, 13, 'g', 3);
        for (int index = 0; index < 4; index++) {
            x.set(1, 0, 'w', index, 30 + index);
        }
        x.set(0, 0, 'w', 1, 21);
        return x;
    }

    private static void value() throws Exception {
        DOC.promise(21);
        says("Returns a word of a variable.");
        Unwindlens x = worded();
        is("word", x.value(0, 0, 'x', 0), 5);
        says("- `thread`: the thread");
        is("of the thread 0", x.value(0, 0, 'w', 0), 5);
        is("of the thread 1", x.value(1, 0, 'w', 0), 30);
        says("- `frame`: the frame, from 0");
        is("of the frame 1", x.value(0, 1, 'w', 0), 30);
        fails("no more", INDEX, x, () -> x.value(0, 2, 'w', 0));
        says("- `letter`: the name");
        x.variable(0, 'z', 'i', 1);
        x.where(3, 0, 9, '#', 77);
        is("another one", x.value(0, 0, 'z', 0), 77);
        is("x still", x.value(0, 0, 'x', 0), 5);
        says("- `index`: the index of the word, from 0");
        is("of two", x.value(0, 0, 'w', 1), 21);
        for (int index = 0; index < 4; index++) {
            is("of four", x.value(1, 0, 'w', index), 30 + index);
        }
        says("Returns the word.");
        for (int word : new int[] {MIN, -1, 0, MAX}) {
            x.set(0, 0, 'x', 0, word);
            is("word", x.value(0, 0, 'x', 0), word);
        }
        Unwindlens kinds = Sample.base();
        kinds.scope(10, 13);
        kinds.variable(0, 'b', 'b', 1);
        kinds.where(0, 10, 13, '#', 66);
        is("a truth is a word too", kinds.value(0, 0, 'b', 0), 66);
    }

    private static void valueRefused() {
        says("Throws `IndexOutOfBoundsException` if there is no such thread or frame,");
        Unwindlens x = worded();
        for (int thread : NO_THREADS) {
            fails("thread " + thread, INDEX, x, () -> x.value(thread, 0, 'w', 0));
        }
        for (int frame : new int[] {-1, 2, 3, MIN, MAX}) {
            fails("frame " + frame, INDEX, x, () -> x.value(0, frame, 'w', 0));
        }
        fails("nor a letter", INDEX, x, () -> x.value(0, 2, 'W', 0));
        fails("nor a name", INDEX, x, () -> x.value(0, 2, 'q', 0));
        says("or the variable has no such word");
        for (int index : new int[] {-1, 2, 3, 4, MIN, MAX}) {
            fails("word " + index, INDEX, x, () -> x.value(0, 0, 'w', index));
        }
        fails("word 1 of one", INDEX, x, () -> x.value(0, 0, 'x', 1));
        fails("word 4 of four", INDEX, x, () -> x.value(1, 0, 'w', 4));
        x.jump(0, 9);
        fails("of one that is gone", INDEX, x, () -> x.value(0, 0, 'x', 1));
        says("Throws `IllegalArgumentException` if it is no small letter");
        for (char letter : new char[] {'`', '{', 'W', '-', 0, 32, 256 + 'w', 65535}) {
            fails("sign " + (int) letter, ARGUMENT, x, () -> x.value(0, 0, letter, 0));
        }
        fails("nor a word", ARGUMENT, x, () -> x.value(0, 0, 'W', 9));
        says("Throws `NoSuchElementException` if there is no such name, or it is gone");
        fails("no such name", ELEMENT, x, () -> x.value(0, 0, 'q', 0));
        for (int index : new int[] {-1, 1, 4, MIN, MAX}) {
            fails("no such name, and so no word " + index, ELEMENT, x, () -> x.value(0, 0, 'q', index));
        }
        fails("gone", ELEMENT, x, () -> x.value(0, 0, 'x', 0));
    }

    private static void show() throws Exception {
        DOC.promise(22);
        says("Shows a variable; what is shown is kept.");
        Unwindlens x = worded();
        is("signs", x.show(1, 0, 'w'), 16);
        x.set(1, 0, 'w', 0, 99);
        x.run(500);
        x.back(5);
        DOC.is("kept", kept(x), "{30, 31, 32, 33}");
        says("- `thread`: the thread");
        Unwindlens y = worded();
        DOC.is("thread 0", Sample.shown(y, 0, 0, 'w'), "{5, 21}");
        DOC.is("thread 1", Sample.shown(y, 1, 0, 'w'), "{30, 31, 32, 33}");
        says("- `frame`: the frame, from 0");
        DOC.is("frame 1", Sample.shown(y, 0, 1, 'w'), "{30, 31, 32, 33}");
        says("- `letter`: the name");
        DOC.is("another one", Sample.shown(y, 0, 0, 'x'), "5");
        says("Returns how many signs.");
        is("one", y.show(0, 0, 'x'), 1);
        is("of two words", y.show(0, 0, 'w'), 7);
        y.set(0, 0, 'x', 0, MIN);
        is("of the lowest", y.show(0, 0, 'x'), 11);
        y.jump(0, 9);
        is("gone", y.show(0, 0, 'x'), 4);
        for (int index = 0; index < 4; index++) {
            y.set(1, 0, 'w', index, MIN);
        }
        is("the most", y.show(1, 0, 'w'), 52);
    }

    /** What was shown last, asked sign by sign. */
    private static String kept(Unwindlens x) {
        StringBuilder text = new StringBuilder();
        String sign = Digest.answerOf(() -> x.shown(0));
        for (int index = 1; sign.length() == 3; index++) {
            text.append(sign.charAt(1));
            int next = index;
            sign = Digest.answerOf(() -> x.shown(next));
        }
        return text.toString();
    }

    private static void showRefused() {
        says("Throws `IndexOutOfBoundsException` if there is no such thread or frame");
        Unwindlens x = worded();
        x.show(0, 0, 'w');
        for (int thread : NO_THREADS) {
            fails("thread " + thread, INDEX, x, () -> x.show(thread, 0, 'w'));
        }
        for (int frame : new int[] {-1, 2, 3, MIN, MAX}) {
            fails("frame " + frame, INDEX, x, () -> x.show(0, frame, 'w'));
        }
        fails("nor a letter", INDEX, x, () -> x.show(0, 2, 'W'));
        says("Throws `IllegalArgumentException` if it is no small letter");
        for (char letter : new char[] {'`', '{', 'W', '-', 0, 32, 256 + 'w', 65535}) {
            fails("sign " + (int) letter, ARGUMENT, x, () -> x.show(0, 0, letter));
        }
        says("Throws `NoSuchElementException` if there is no such name");
        fails("never told", ELEMENT, x, () -> x.show(0, 0, 'q'));
        fails("not at this frame", ELEMENT, x, () -> x.show(0, 1, 'x'));
        DOC.is("what was shown ahead of all these is kept", kept(x), "{5, 21}");
        x.jump(0, 9);
        is("but one that is gone is shown", x.show(0, 0, 'x'), 4);
    }

    private static void shown() throws Exception {
        DOC.promise(23);
        says("Returns a sign of what was shown last.");
        Unwindlens x = worded();
        x.show(0, 0, 'w');
        x.show(0, 0, 'x');
        is("of the last one", x.shown(0), '5');
        fails("not of the one ahead", INDEX, x, () -> x.shown(1));
        says("- `index`: the index, from 0");
        x.show(0, 0, 'w');
        for (int index = 0; index < 7; index++) {
            is("sign " + index, x.shown(index), "{5, 21}".charAt(index));
        }
        is("asked again", x.shown(0), '{');
        says("Returns the sign.");
        x.jump(0, 9);
        x.show(0, 0, 'x');
        for (int index = 0; index < 4; index++) {
            is("sign of gone", x.shown(index), "gone".charAt(index));
        }
        says("Throws `IndexOutOfBoundsException` if there is no such sign");
        for (int index : new int[] {-1, 4, 5, 7, MIN, MAX}) {
            fails("sign " + index, INDEX, x, () -> x.shown(index));
        }
        Unwindlens none = worded();
        fails("as nothing was shown", INDEX, none, () -> none.shown(0));
        fails("nothing is shown by this", ELEMENT, none, () -> none.show(0, 0, 'q'));
        fails("so there is none", INDEX, none, () -> none.shown(0));
    }
}
