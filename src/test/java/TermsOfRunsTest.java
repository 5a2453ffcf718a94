import java.util.NoSuchElementException;

/** The Terms of the document from breakpoints to exceptions, sentence by sentence. */
public final class TermsOfRunsTest {
    private static final Class<IndexOutOfBoundsException> INDEX = Sentences.INDEX;
    private static final Class<IllegalArgumentException> ARGUMENT = Sentences.ARGUMENT;
    private static final Class<NoSuchElementException> ELEMENT = Sentences.ELEMENT;
    private static final Class<UnsupportedOperationException> UNSUPPORTED = Sentences.UNSUPPORTED;
    private static final Class<IllegalStateException> STATE = Sentences.STATE;
    private static final int MAX = Integer.MAX_VALUE;
    private static final int MIN = Integer.MIN_VALUE;
    private static final Sentences DOC = new Sentences();

    private TermsOfRunsTest() {
    }

    public static void main(String[] args) {
        breakpoints();
        conditions();
        conditionsAtFrames();
        hits();
        hitsAgain();
        passedOver();
        watches();
        watchesBehindSteps();
        watchesThatEnd();
        severalWatches();
        running();
        linesInto();
        linesOver();
        linesOut();
        linesEnd();
        back();
        backLeaves();
        backToBreakpoints();
        byHand();
        calls();
        callsThatReturn();
        callsThatDoNotReturn();
        behindByHand();
        exceptions();
        exceptionsInOrder();
        DOC.end("TermsOfRunsTest", "Exceptions.");
    }

    private static void says(String text) {
        DOC.says(text);
    }

    private static void is(String what, long got, long due) {
        DOC.is(what, got, due);
    }

    private static void fails(String what, Class<? extends RuntimeException> due, Unwindlens x,
            java.util.concurrent.Callable<?> call) {
        DOC.fails(what, due, x, call);
    }

    /** A run makes so many steps and ends by this reason, by the breakpoint or watch of this number, -1 for none. */
    private static void runs(String what, Unwindlens x, int steps, int due, char reason, int which) {
        is(what + ": steps", x.run(steps), due);
        ends(what, x, reason, which);
    }

    private static void goes(String what, Unwindlens x, int thread, char way, int due, char reason, int which) {
        is(what + ": steps", x.stepLine(thread, way), due);
        ends(what, x, reason, which);
    }

    private static void ends(String what, Unwindlens x, char reason, int which) {
        is(what + ": reason", x.reason(), reason);
        int number = -1;
        try {
            number = x.which();
        } catch (NoSuchElementException e) {
            number = -1;
        }
        is(what + ": which", number, which);
    }

    /** The cell 2 becomes 1, 2, 3 .. at the place 2, each third step. */
    private static Unwindlens loop() {
        return Sample.thread("c 3 1; + 0 3; p 0 2; j 3 1");
    }

    private static void breakpoints() {
        DOC.section("Breakpoints.");
        says("Breakpoints. At most 8 are numbered from 0, each of places, those that are so as it is told:");
        Unwindlens x = Sample.base();
        x.line(11, 7);
        for (int breakpoint = 0; breakpoint < 8; breakpoint++) {
            int number = breakpoint % 3 == 0 ? x.stop(0) : breakpoint % 3 == 1 ? x.stopLine(7) : x.stopIn(0);
            is("number", number, breakpoint);
        }
        fails("ninth at a place", STATE, x, () -> x.stop(0));
        fails("ninth at a line", STATE, x, () -> x.stopLine(7));
        fails("ninth in a function", STATE, x, () -> x.stopIn(0));
        Unwindlens later = Sample.base();
        later.line(11, 7);
        later.stopLine(7);
        later.stopIn(1);
        later.line(11, -1);
        later.line(12, 7);
        later.rule(12, 'i');
        runs("of the function, where it was without a rule", later, 50, 0, 'b', 1);
        runs("of the line, where it began", later, 50, 1, 'b', 0);
        runs("not where they are then", later, 50, 13, 'd', -1);
        says("one told,");
        Unwindlens told = Sample.base();
        told.stop(13);
        runs("its place alone", told, 50, 13, 'b', 0);
        is("place", told.frame(0, 0, 'p'), 13);
        runs("and on", told, 50, 1, 'd', -1);
        says("all at which a line begins,");
        Unwindlens lines = Sample.base();
        for (int place : new int[] {0, 1, 3, 9, 10, 11}) {
            lines.line(place, 4);
        }
        lines.stopLine(4);
        runs("first place of a function, though the place ahead has it", lines, 50, 0, 'b', 0);
        runs("not 11; 0", lines, 50, 2, 'b', 0);
        runs("not 1; 3", lines, 50, 3, 'b', 0);
        runs("9", lines, 50, 6, 'b', 0);
        runs("no more", lines, 50, 3, 'd', -1);
        says("or of a function the first one with the rule 'i', or its first one without.");
        Unwindlens in = Sample.base();
        in.rule(4, 'i');
        in.rule(10, 'o');
        in.stopIn(0);
        in.stopIn(1);
        runs("without: its first one", in, 50, 0, 'b', 1);
        runs("the first one with the rule i", in, 50, 3, 'b', 0);
        is("place", in.frame(0, 0, 'p'), 1);
        runs("only there", in, 50, 11, 'd', -1);
        Unwindlens last = Sample.functions();
        last.rule(0, 'i');
        last.rule(13, 'i');
        last.thread(1);
        last.stopIn(1);
        last.stopIn(0);
        runs("the first place has it", last, 50, 2, 'b', 1);
        is("place", last.frame(0, 0, 'p'), 0);
        runs("the last place has it", last, 50, 11, 'b', 0);
        is("place", last.frame(0, 0, 'p'), 13);
    }

    /** Whether a breakpoint at the place 7, where the slot x and the register 2 are 7, stops the run. */
    private static boolean stopsIf(char how, int number) {
        Unwindlens x = Sample.named();
        x.stop(7);
        x.when(0, 'x', how, number);
        x.run(50);
        return x.reason() == 'b';
    }

    private static void conditions() {
        says("It can have a condition: a name, '<', '=' or '>', and a number, which holds if the name's first word is"
                + " there at the first shown frame of the thread, and is so.");
        int[] numbers = {MIN, -7, 6, 7, 8, MAX};
        for (int number : numbers) {
            is("less than " + number, stopsIf('<', number) ? 1 : 0, 7 < number ? 1 : 0);
            is("is " + number, stopsIf('=', number) ? 1 : 0, 7 == number ? 1 : 0);
            is("more than " + number, stopsIf('>', number) ? 1 : 0, 7 > number ? 1 : 0);
        }
        for (int word : new int[] {MIN, -1, MAX}) {
            for (char how : "<=>".toCharArray()) {
                Unwindlens x = Sample.base();
                x.scope(10, 13);
                x.variable(0, 'n', 'i', 1);
                x.where(0, 10, 13, '#', word);
                x.stop(10);
                x.when(0, 'n', how, 0);
                boolean holds = how == '<' ? word < 0 : how == '>' && word > 0;
                runs(word + " " + how + " 0", x, 1, holds ? 0 : 1, holds ? 'b' : 'n', holds ? 0 : -1);
            }
        }
        Unwindlens words = Sample.base();
        words.scope(10, 13);
        words.variable(0, 'w', 'i', 3);
        words.where(0, 10, 13, 'g', 4);
        words.set(0, 0, 'w', 1, 5);
        words.set(0, 0, 'w', 2, 5);
        words.stop(10);
        words.when(0, 'w', '=', 5);
        runs("another word is so", words, 1, 1, 'n', -1);
        words.jump(0, 10);
        words.set(0, 0, 'w', 0, 5);
        runs("the first word is so", words, 1, 0, 'b', 0);
    }

    private static void conditionsAtFrames() {
        for (char how : "<=>".toCharArray()) {
            Unwindlens x = Sample.named();
            x.stop(1);
            x.stop(0);
            x.when(0, 'x', how, 0);
            x.when(1, 'y', how, 0);
            runs("gone, or no such name: " + how, x, 50, 14, 'd', -1);
        }
        Unwindlens several = Sample.base();
        several.scope(10, 13);
        several.variable(0, 'w', 'i', 2);
        several.where(0, 10, 13, 'g', 15);
        several.stop(10);
        several.when(0, 'w', '=', 0);
        runs("gone as its second word is above 15", several, 1, 1, 'n', -1);
        Unwindlens inlined = Sample.named();
        inlined.inlined(7, 7, 1, 5);
        inlined.stop(7);
        inlined.when(0, 'x', '=', 7);
        runs("not seen by the first shown frame", inlined, 50, 14, 'd', -1);
        Unwindlens seen = Sample.named();
        seen.inlined(7, 7, 1, 5);
        seen.scope(7, 7);
        seen.variable(1, 'y', 'i', 1);
        seen.where(1, 7, 7, 'r', 2);
        seen.stop(7);
        seen.when(0, 'y', '=', 7);
        runs("seen by the first shown frame alone", seen, 50, 9, 'b', 0);
        Unwindlens two = Sample.named();
        two.thread(1);
        two.run(18);
        two.set(1, 0, 'x', 0, 1);
        two.stop(7);
        two.when(0, 'x', '=', 1);
        runs("of the thread that goes, not of thread 0", two, 50, 1, 'b', 0);
        is("thread 0 went", two.frame(0, 0, 'p'), 8);
        two.when(0, '-', '?', 0);
        two.jump(0, 7);
        runs("of none again", two, 50, 0, 'b', 0);
    }

    private static void hits() {
        says("As a thread is about to go, and stands at a place of one that is on, the condition holding, this is a"
                + " hit,");
        Unwindlens x = Sample.base();
        x.stop(10);
        runs("ahead of the first step", x, 9, 0, 'b', 0);
        is("hit", x.hits(0), 1);
        Unwindlens off = Sample.base();
        off.pass(off.stop(10), -1);
        runs("one that is off", off, 9, 9, 'n', -1);
        is("no hit", off.hits(0), 0);
        Unwindlens not = Sample.base();
        not.stop(11);
        not.when(0, 'x', '=', 1);
        runs("a condition that does not hold", not, 9, 9, 'n', -1);
        is("no hit", not.hits(0), 0);
        Unwindlens all = Sample.base();
        all.stop(11);
        runs("all steps are made, so it is not about to go", all, 1, 1, 'n', -1);
        is("no hit", all.hits(0), 0);
        runs("then it is", all, 1, 0, 'b', 0);
        Unwindlens turn = Sample.base();
        turn.thread(1);
        turn.stop(11);
        runs("the other one goes first", turn, 9, 2, 'b', 0);
        turn.hold(1, true);
        turn.jump(1, 11);
        is("a held one is not about to go", turn.run(1), 0);
        is("thread 0 is", turn.hits(0), 2);
        turn.run(2);
        is("nor is it hit later", turn.hits(0), 2);
        Unwindlens done = Sample.base();
        done.stop(13);
        done.run(50);
        done.run(50);
        is("hit as it was about to end", done.hits(0), 1);
        done.run(50);
        is("one that is done is not about to go", done.hits(0), 1);
        Unwindlens ahead = Sample.thread("n 0 0; k 0 5; h 0 0");
        ahead.stop(1);
        runs("ahead of a fault", ahead, 9, 1, 'b', 0);
        runs("then the fault", ahead, 9, 1, 'd', -1);
    }

    private static void hitsAgain() {
        says("but not if a run stopped for this thread by it, perhaps by others behind that too, and the thread did not"
                + " go since, nor was there a change by hand, or a going back;");
        Unwindlens x = Sample.base();
        x.thread(1);
        x.stop(10);
        runs("for thread 0", x, 1, 0, 'b', 0);
        runs("not again; thread 0 goes", x, 1, 1, 'n', -1);
        runs("for thread 1", x, 1, 0, 'b', 0);
        is("hits", x.hits(0), 2);
        x.hold(1, true);
        x.run(3);
        x.hold(1, false);
        runs("others went, it did not", x, 2, 2, 'n', -1);
        is("hits still", x.hits(0), 2);
        Unwindlens others = loop();
        for (int breakpoint = 0; breakpoint < 3; breakpoint++) {
            others.stop(1);
        }
        for (int breakpoint = 0; breakpoint < 3; breakpoint++) {
            runs("by others behind", others, 9, breakpoint == 0 ? 1 : 0, 'b', breakpoint);
        }
        runs("by none again, till it went", others, 9, 3, 'b', 0);
        Unwindlens again = Sample.thread("c 3 1; j 3 1");
        again.stop(1);
        runs("one that goes to its own place", again, 9, 1, 'b', 0);
        runs("is hit again behind each step", again, 9, 1, 'b', 0);
        is("hits", again.hits(0), 2);
        hitsBehindByHand();
    }

    /** Behind each change by hand and each going back a hit is one again; behind other calls it is not. */
    private static void hitsBehindByHand() {
        for (int way = 0; way < 12; way++) {
            Unwindlens x = Sample.named();
            x.variable(0, 'g', 'i', 1);
            x.where(1, 0, 9, 'g', 4);
            x.thread(1);
            x.stop(4);
            x.run(50);
            is("stopped at 4", x.frame(0, 0, 'p'), 4);
            boolean isAgain = change(x, way);
            is("way " + way + ": hit again", x.run(1), isAgain ? 0 : 1);
            is("way " + way + ": hits", x.hits(0), isAgain ? 2 : 1);
        }
    }

    private static boolean change(Unwindlens x, int way) {
        switch (way) {
            case 0:
                x.set(0, 0, 'g', 0, 0);
                return true;
            case 1:
                x.jump(0, 4);
                return true;
            case 2:
                x.jump(1, 11);
                x.hold(1, true);
                return true;
            case 3:
                x.patch(13, 'h', 0, 0);
                return true;
            case 4:
                x.hold(1, true);
                x.call(0, 0, 1);
                return true;
            case 5:
                x.hold(0, true);
                x.pass(0, -1);
                x.run(1);
                x.pass(0, 0);
                x.hold(0, false);
                x.back(1);
                return true;
            case 6:
                x.pass(0, 0);
                x.when(0, '-', '-', 0);
                return false;
            case 7:
                x.hold(0, true);
                x.hold(0, false);
                return false;
            case 8:
                x.code('n', 0, 0);
                x.function(14, 14);
                return false;
            case 9:
                x.line(4, 4);
                x.rule(4, 'i');
                return false;
            case 10:
                x.watch(9);
                x.isTrue();
                x.show(0, 0, 'g');
                return false;
            default:
                x.pass(0, -1);
                x.pass(0, 0);
                return false;
        }
    }

    private static void passedOver() {
        says("of several the lowest number.");
        Unwindlens x = loop();
        x.stop(2);
        x.stop(1);
        x.stop(1);
        runs("the lowest at the place", x, 9, 1, 'b', 1);
        is("the other one was not hit", x.hits(2), 0);
        Unwindlens off = loop();
        off.stop(1);
        off.stop(1);
        off.stop(1);
        off.pass(0, -1);
        off.when(1, 'x', '=', 0);
        runs("the lowest that is on and holds", off, 9, 1, 'b', 2);
        says("The next hits of so many as told are passed over, though counted.");
        Unwindlens y = loop();
        y.run(1);
        y.stop(1);
        for (int hits : new int[] {0, 1, 2, 99}) {
            y.jump(0, 1);
            int before = y.pass(0, hits);
            runs("passes " + hits, y, 500, 3 * hits, 'b', 0);
            is("counted", y.hits(0), before + hits + 1);
            runs("no more are passed over", y, 500, 3, 'b', 0);
        }
        Unwindlens part = loop();
        part.stop(1);
        part.pass(0, 3);
        runs("some of them", part, 5, 5, 'n', -1);
        is("counted", part.hits(0), 2);
        runs("the others in the next run", part, 50, 5, 'b', 0);
        is("all", part.hits(0), 4);
        part.pass(0, 5);
        part.pass(0, 1);
        runs("told anew", part, 50, 6, 'b', 0);
        Unwindlens back = loop();
        back.stop(1);
        back.pass(0, 2);
        back.run(4);
        is("passed over", back.hits(0), 1);
        back.back(4);
        runs("going back does not give it again", back, 50, 4, 'b', 0);
        is("counted", back.hits(0), 3);
        Unwindlens both = loop();
        both.stop(1);
        both.stop(1);
        both.pass(0, 1);
        runs("one that is passed over leaves no hit to others", both, 50, 4, 'b', 0);
        is("not counted", both.hits(1), 0);
    }

    private static void watches() {
        DOC.section("Watches.");
        says("Watches. At most 4 are numbered from 0:");
        Unwindlens x = Sample.named();
        x.run(4);
        is("first", x.watch(0), 0);
        is("second", x.watchName(0, 0, 'x'), 1);
        is("third", x.watch(0), 2);
        is("fourth", x.watchName(0, 0, 'x'), 3);
        fails("fifth of a cell", STATE, x, () -> x.watch(0));
        fails("fifth of a variable", STATE, x, () -> x.watchName(0, 0, 'x'));
        says("of a cell,");
        for (int cell : new int[] {0, 7, 15}) {
            Unwindlens c = Sample.thread("c 0 5; p 0 " + cell + "; h 0 0");
            c.watch((cell + 1) % 16);
            c.watch(cell);
            runs("cell " + cell, c, 9, 2, 'w', 1);
        }
        says("or of a variable at a frame, that is in slots or cells then, of its first word;");
        Unwindlens slots = Sample.thread("c 0 5; e 0 4; s 0 2; s 0 0; s 0 1; h 0 0");
        slots.scope(0, 5);
        slots.variable(0, 'w', 'i', 2);
        slots.where(0, 0, 5, 's', 1);
        slots.run(2);
        slots.watchName(0, 0, 'w');
        runs("not its second word, not another slot", slots, 9, 3, 'w', 0);
        is("the first", slots.value(0, 0, 'w', 0), 5);
        Unwindlens cells = Sample.thread("c 0 5; p 0 9; p 0 8; h 0 0");
        cells.scope(0, 3);
        cells.variable(0, 'w', 'i', 2);
        cells.where(0, 0, 3, 'g', 8);
        cells.watchName(0, 0, 'w');
        runs("the cell 8", cells, 9, 3, 'w', 0);
        for (char kind : "r#".toCharArray()) {
            Unwindlens no = Sample.named();
            no.variable(0, 'y', 'i', 1);
            no.where(1, 0, 9, kind, 0);
            no.run(3);
            fails("in no slots or cells: " + kind, UNSUPPORTED, no, () -> no.watchName(0, 0, 'y'));
            fails("gone", UNSUPPORTED, no, () -> no.watchName(0, 0, 'x'));
        }
        Unwindlens behind = new Unwindlens();
        Sample.code(behind, "e 0 1; k 0 1; h 0 0; c 0 6; s 0 0; h 0 0");
        behind.function(0, 2);
        behind.function(3, 5);
        behind.scope(0, 2);
        behind.variable(0, 'v', 'i', 1);
        behind.where(0, 0, 2, 's', 0);
        behind.thread(0);
        behind.run(2);
        behind.watchName(0, 1, 'v');
        runs("at the frame behind the first", behind, 9, 2, 'w', 0);
    }

    private static void watchesBehindSteps() {
        says("the word is what is looked at.");
        Unwindlens x = Sample.named();
        x.run(4);
        x.watchName(0, 0, 'x');
        x.where(0, 0, 9, 'g', 9);
        x.variable(0, 'x', 'i', 1);
        runs("the slot, wherever the variable is then", x, 50, 5, 'w', 0);
        Unwindlens same = Sample.thread("c 0 5; p 0 9; p 0 9; c 0 0; p 0 9; h 0 0");
        same.watch(9);
        runs("another value", same, 9, 2, 'w', 0);
        runs("the same value is none, 0 is", same, 9, 3, 'w', 0);
        runs("no more", same, 9, 1, 'd', -1);
        says("Behind each step one whose word has another value stops the run;");
        Unwindlens y = loop();
        y.watch(2);
        runs("behind the step", y, 500, 3, 'w', 0);
        runs("the next", y, 3, 3, 'w', 0);
        Unwindlens other = Sample.base();
        other.thread(1);
        other.hold(0, true);
        other.watch(3);
        runs("by another thread too", other, 50, 13, 'w', 0);
        Unwindlens told = loop();
        told.run(3);
        told.watch(2);
        runs("the word as it is told, not 0", told, 50, 3, 'w', 0);
        Unwindlens line = loop();
        line.watch(2);
        goes("by lines too", line, 0, 'i', 3, 'w', 0);
    }

    private static void watchesThatEnd() {
        says("one in a slot ends behind a step by which the stack of its thread is not above it, which stops the run"
                + " too;");
        Unwindlens x = Sample.thread("e 0 4; c 0 6; s 0 3; x 0 0; h 0 0");
        x.scope(0, 4);
        for (int slot = 0; slot < 4; slot += 3) {
            x.variable(0, (char) ('a' + slot), 'i', 1);
            x.where(slot / 3, 0, 4, 's', slot);
        }
        x.run(1);
        x.watchName(0, 0, 'd');
        runs("the highest slot, changed", x, 9, 2, 'w', 0);
        runs("ended", x, 9, 1, 'e', 0);
        runs("not told again", x, 9, 1, 'd', -1);
        Unwindlens above = Sample.thread("k 0 0; k 0 0; r 0 0; n 0 0; n 0 0");
        above.scope(0, 4);
        for (int slot = 0; slot < 3; slot++) {
            above.variable(0, (char) ('a' + slot), 'i', 1);
            above.where(slot, 0, 4, 's', slot);
        }
        above.run(3);
        above.watchName(0, 0, 'a');
        above.watchName(0, 0, 'c');
        above.watchName(0, 0, 'b');
        above.jump(0, 2);
        runs("three words: that of the slot 2 ends", above, 1, 1, 'e', 1);
        above.jump(0, 2);
        runs("two words: that of the slot 1 ends", above, 1, 1, 'e', 2);
        above.jump(0, 0);
        runs("words that come again begin none anew", above, 3, 3, 'n', -1);
        above.jump(0, 3);
        runs("the slot 0 is there still", above, 1, 1, 'n', -1);
        for (int times = 0; times < 3; times++) {
            above.jump(0, 2);
            runs("taken off", above, 1, 1, 'n', -1);
        }
        above.jump(0, 2);
        runs("the slot 0 ends at last", above, 1, 1, 'e', 0);
        Unwindlens cell = Sample.thread("e 0 2; c 0 1; x 0 0; p 0 3; h 0 0");
        cell.watch(3);
        runs("one of a cell does not end", cell, 9, 4, 'w', 0);
        Unwindlens two = Sample.named();
        two.thread(1);
        two.hold(1, true);
        two.run(4);
        two.watchName(0, 0, 'x');
        two.hold(0, true);
        two.hold(1, false);
        runs("the stack of another thread does not end it", two, 50, 14, 'd', -1);
        Unwindlens ended = Sample.thread("e 0 1; h 0 0");
        ended.scope(0, 1);
        ended.variable(0, 'a', 'i', 1);
        ended.where(0, 0, 1, 's', 0);
        ended.run(1);
        ended.watchName(0, 0, 'a');
        runs("the end of its thread does not", ended, 9, 1, 'd', -1);
    }

    private static void severalWatches() {
        says("of several the lowest number is told, all words being looked at anew.");
        Unwindlens x = loop();
        x.watch(9);
        x.watch(2);
        x.watch(2);
        runs("the lowest that changed", x, 9, 3, 'w', 1);
        runs("the other one is not told behind it", x, 2, 2, 'n', -1);
        runs("but both again", x, 9, 1, 'w', 1);
        Unwindlens y = Sample.named();
        y.run(4);
        y.watchName(0, 0, 'x');
        y.watchName(0, 0, 'x');
        runs("both change", y, 50, 5, 'w', 0);
        runs("both end", y, 50, 2, 'e', 0);
        runs("none is told again", y, 50, 3, 'd', -1);
        Unwindlens higher = new Unwindlens();
        Sample.code(higher, "k 0 1; k 0 0; r 0 0; n 0 0");
        higher.function(0, 1);
        higher.function(2, 3);
        higher.thread(1);
        higher.scope(0, 3);
        higher.variable(0, 'a', 'i', 1);
        higher.where(0, 0, 3, 's', 0);
        higher.variable(0, 'b', 'i', 1);
        higher.where(1, 0, 3, 's', 1);
        higher.jump(0, 0);
        higher.run(1);
        higher.jump(0, 1);
        higher.run(1);
        higher.watchName(0, 0, 'a');
        higher.watchName(0, 0, 'b');
        higher.jump(0, 2);
        runs("of several the one that ends alone", higher, 1, 1, 'e', 1);
    }

    private static void running() {
        DOC.section("Running.");
        says("Running. A run makes steps till so many are made, a hit 'b', a watch 'w', the end of one 'e', or no thread"
                + " can go 'd';");
        for (int steps : new int[] {1, 2, 499, 500}) {
            runs("so many", loop(), steps, steps, 'n', -1);
        }
        Unwindlens b = Sample.base();
        b.stop(0);
        runs("a hit", b, 500, 2, 'b', 0);
        b.watch(3);
        runs("a watch", b, 500, 11, 'w', 0);
        runs("none can go", b, 500, 1, 'd', -1);
        Unwindlens e = Sample.named();
        e.run(9);
        e.watchName(0, 0, 'x');
        runs("the end of one", e, 500, 2, 'e', 0);
        Unwindlens none = Sample.functions();
        runs("without threads", none, 500, 0, 'd', -1);
        none.thread(1);
        none.hold(0, true);
        runs("all are held", none, 500, 0, 'd', -1);
        none.hold(0, false);
        none.patch(10, 'x', 0, 0);
        runs("a fault", none, 500, 1, 'd', -1);
        Unwindlens both = loop();
        both.stop(3);
        both.watch(2);
        runs("the watch behind the step is ahead of the hit", both, 500, 3, 'w', 0);
        runs("then the hit", both, 500, 0, 'b', 0);
        says("'n' as all steps are made, also if no thread can go then.");
        Unwindlens all = Sample.base();
        runs("all fourteen", all, 14, 14, 'n', -1);
        runs("then none", all, 14, 0, 'd', -1);
        Unwindlens fault = Sample.thread("x 0 0");
        runs("a fault is the last step", fault, 1, 1, 'n', -1);
    }

    private static Unwindlens lined() {
        Unwindlens x = Sample.base();
        int[] places = {0, 1, 2, 3, 5, 11, 12};
        int[] lines = {0, 1, 2, 2, 3, 20, 21};
        for (int i = 0; i < places.length; i++) {
            x.line(places[i], lines[i]);
        }
        return x;
    }

    private static void linesInto() {
        says("By lines one thread alone goes:");
        Unwindlens x = lined();
        x.thread(1);
        x.thread(1);
        goes("thread 1", x, 1, 'i', 1, 'n', -1);
        goes("thread 1", x, 1, 'i', 1, 'n', -1);
        is("thread 1 went", x.frame(1, 0, 'p'), 0);
        is("0 stands", x.frame(0, 0, 'p'), 10);
        is("2 stands", x.frame(2, 0, 'p'), 10);
        runs("2 is behind it in turn", x, 1, 1, 'n', -1);
        is("2 went", x.frame(2, 0, 'p'), 11);
        says("'i' till it is at a place at which a line begins;");
        Unwindlens y = lined();
        int[] steps = {1, 1, 1, 1, 3, 5};
        int[] places = {11, 0, 1, 2, 5, 12};
        for (int i = 0; i < steps.length; i++) {
            goes("into", y, 0, 'i', steps[i], 'n', -1);
            is("place", y.frame(0, 0, 'p'), places[i]);
        }
        y.line(13, 21);
        goes("the same line does not begin again", y, 0, 'i', 2, 'd', -1);
        Unwindlens inner = lined();
        inner.inlined(2, 4, 1, 9);
        inner.run(3);
        goes("into an inlined call", inner, 0, 'i', 1, 'n', -1);
    }

    private static void linesOver() {
        says("'o' likewise, but with no more frames, inlined ones not counted, than at first, and in no inlined call in"
                + " which it was not at first;");
        Unwindlens x = lined();
        goes("to the call", x, 0, 'o', 1, 'n', -1);
        goes("over it", x, 0, 'o', 11, 'n', -1);
        is("behind it", x.frame(0, 0, 'p'), 12);
        Unwindlens less = lined();
        less.line(5, -1);
        less.run(5);
        goes("with fewer frames", less, 0, 'o', 7, 'n', -1);
        is("behind the call", less.frame(0, 0, 'p'), 12);
        Unwindlens inner = lined();
        inner.inlined(1, 5, 1, 9);
        inner.inlined(2, 4, 1, 9);
        inner.line(6, 6);
        inner.run(3);
        goes("over the inner one, in that in which it was", inner, 0, 'o', 4, 'n', -1);
        is("place", inner.frame(0, 0, 'p'), 5);
        inner.back(5);
        goes("over both", inner, 0, 'o', 6, 'n', -1);
        is("place", inner.frame(0, 0, 'p'), 6);
        inner.jump(0, 2);
        inner.line(4, 4);
        goes("in both at first", inner, 0, 'o', 2, 'n', -1);
        is("place", inner.frame(0, 0, 'p'), 4);
        goes("out of the inner one", inner, 0, 'o', 1, 'n', -1);
        Unwindlens frames = new Unwindlens();
        Sample.code(frames, "n 0 0; k 0 1; h 0 0; n 0 0; r 0 0");
        frames.function(0, 2);
        frames.function(3, 4);
        frames.thread(0);
        frames.inlined(0, 0, 1, 1);
        frames.inlined(0, 1, 1, 1);
        frames.line(2, 2);
        frames.line(3, 3);
        is("three are shown", frames.frames(0), 3);
        goes("inlined ones are not counted", frames, 0, 'o', 4, 'n', -1);
        is("over the call", frames.frame(0, 0, 'p'), 2);
        Unwindlens same = lined();
        same.run(1);
        same.inlined(11, 12, 0, 1);
        goes("a line in another place of the same call", same, 0, 'o', 11, 'n', -1);
    }

    private static void linesOut() {
        says("'u' till its stack has no more words than the frame behind its first one, inlined ones not counted, had"
                + " at first, without one till it is not ready;");
        for (int steps = 2; steps <= 11; steps++) {
            Unwindlens x = Sample.base();
            x.rule(9, 'o');
            x.run(steps);
            goes("from step " + steps, x, 0, 'u', 12 - steps, 'n', -1);
            is("behind the call", x.frame(0, 0, 'p'), 12);
            DOC.is("no words", x.meanStack(), 0.0);
        }
        Unwindlens inner = Sample.base();
        inner.inlined(3, 5, 1, 1);
        inner.run(6);
        goes("out of an inlined call and more", inner, 0, 'u', 6, 'n', -1);
        Unwindlens none = Sample.base();
        none.run(1);
        goes("without one", none, 0, 'u', 13, 'd', -1);
        is("done", none.state(0), 'd');
        Unwindlens first = Sample.base();
        first.run(2);
        first.rule(0, 'i');
        goes("without one, as its words are not there", first, 0, 'u', 12, 'd', -1);
        Unwindlens less = Sample.thread("k 0 0; n 0 0; r 0 0");
        less.run(2);
        less.jump(0, 1);
        goes("one word less is enough", less, 0, 'u', 2, 'n', -1);
        DOC.is("one word", less.meanStack(), 1.0);
    }

    private static void linesEnd() {
        says("at least one step, at most 200, with hits and watches as in a run;");
        Unwindlens one = Sample.thread("c 3 1; j 3 1; h 0 0");
        one.line(1, 5);
        goes("to the line", one, 0, 'i', 1, 'n', -1);
        goes("it is there already, but goes", one, 0, 'i', 1, 'n', -1);
        goes("over", one, 0, 'o', 1, 'n', -1);
        is("time", one.time(), 3);
        for (char way : "iou".toCharArray()) {
            Unwindlens x = Sample.thread("c 3 1; j 3 0; h 0 0");
            goes("without a line: " + way, x, 0, way, 200, 'n', -1);
            is("no more", x.time(), 200);
            x.stop(1);
            goes("a hit: " + way, x, 0, way, 1, 'b', 0);
            goes("not again: " + way, x, 0, way, 2, 'b', 0);
            x.pass(0, 2);
            goes("two are passed over: " + way, x, 0, way, 6, 'b', 0);
            is("counted", x.hits(0), 5);
        }
        Unwindlens watched = loop();
        watched.line(3, 3);
        watched.watch(2);
        goes("the watch is told, though it is there", watched, 0, 'i', 3, 'w', 0);
        Unwindlens ends = Sample.named();
        ends.run(9);
        ends.watchName(0, 0, 'x');
        goes("the end of a watch", ends, 0, 'u', 2, 'e', 0);
        Unwindlens last = Sample.thread("c 0 99; c 1 1; - 0 1; j 0 2; h 0 0");
        last.line(4, 4);
        goes("exactly 200", last, 0, 'i', 200, 'n', -1);
        is("it is there", last.frame(0, 0, 'p'), 4);
        says("'d' as it is not ready any more.");
        for (char way : "iou".toCharArray()) {
            Unwindlens x = Sample.base();
            goes("done: " + way, x, 0, way, 14, 'd', -1);
            Unwindlens fault = Sample.thread("n 0 0; x 0 0");
            fault.line(1, 1);
            fault.run(1);
            goes("a fault where a line begins: " + way, fault, 0, way, 1, 'd', -1);
            fails("not ready", UNSUPPORTED, fault, () -> fault.stepLine(0, way));
        }
    }

    private static void back() {
        DOC.section("Back.");
        says("Back. The steps since the last change by hand, or the last instruction, function or thread that was told,"
                + " at most 1000, are kept;");
        for (int way = 0; way < 10; way++) {
            Unwindlens x = Sample.named();
            x.run(4);
            boolean ends = tell(x, way);
            if (ends) {
                fails("way " + way + " ends what is kept", UNSUPPORTED, x, () -> x.back(1));
                fails("way " + way + " for breakpoints", ELEMENT, x, () -> x.backTo());
            } else {
                is("way " + way + " does not", x.back(4), 0);
            }
        }
        Unwindlens since = Sample.named();
        since.run(3);
        since.jump(0, 2);
        since.run(3);
        fails("only those since", UNSUPPORTED, since, () -> since.back(4));
        is("all of them", since.back(3), 3);
        is("where it was put", since.frame(0, 0, 'p'), 2);
        Unwindlens full = loop();
        full.run(500);
        full.run(499);
        full.run(1);
        fails("1001", ARGUMENT, full, () -> full.back(1001));
        is("1000", full.back(1000), 0);
        is("as it was", full.checksum(), loop().checksum());
        says("as there would be more, they are kept anew from then on.");
        Unwindlens anew = loop();
        anew.run(500);
        anew.run(500);
        long sum = anew.checksum();
        anew.run(1);
        fails("not two", UNSUPPORTED, anew, () -> anew.back(2));
        is("one", anew.back(1), 1000);
        is("as it was then", anew.checksum(), sum);
        for (int runs = 0; runs < 4; runs++) {
            anew.run(250);
        }
        is("1000 again", anew.back(1000), 1000);
        Unwindlens part = loop();
        part.run(500);
        part.run(500);
        part.back(1);
        part.run(1);
        is("going back makes room", part.back(1000), 0);
    }

    /** Tells something behind steps, and answers whether that ends what is kept. */
    private static boolean tell(Unwindlens x, int way) {
        switch (way) {
            case 0:
                x.set(0, 0, 'x', 0, 5);
                return true;
            case 1:
                x.jump(0, x.frame(0, 0, 'p'));
                return true;
            case 2:
                x.patch(13, 'h', 0, 0);
                return true;
            case 3:
                x.call(0, 0, 1);
                return true;
            case 4:
                x.code('n', 0, 0);
                return true;
            case 5:
                x.code('n', 0, 0);
                x.run(1);
                x.function(14, 14);
                return true;
            case 6:
                x.thread(0);
                return true;
            case 7:
                x.line(4, 4);
                x.rule(4, 'i');
                x.inlined(3, 4, 0, 0);
                x.scope(3, 4);
                x.variable(1, 'x', 'i', 1);
                x.where(1, 3, 4, 'r', 1);
                return false;
            case 8:
                x.stop(4);
                x.watch(4);
                x.when(0, 'x', '=', 0);
                x.pass(0, 5);
                return false;
            default:
                x.hold(0, true);
                x.isTrue();
                x.run(5);
                return false;
        }
    }

    private static void backLeaves() {
        says("To go back makes cells, threads, whose turn it is, and the time as they were;");
        Unwindlens x = Sample.base();
        x.thread(1);
        x.thread(0);
        long[] sums = new long[39];
        for (int time = 0; time < 39; time++) {
            sums[time] = x.checksum();
            is("time", x.time(), time);
            x.run(1);
        }
        for (int time = 37; time >= 0; time--) {
            is("the time then", x.back(1), time);
            is("the time", x.time(), time);
            is("cells and threads at " + time, x.checksum(), sums[time]);
        }
        for (int time = 1; time < 39; time++) {
            x.run(1);
            is("the same turns again", x.checksum(), sums[time]);
        }
        is("several at once", x.back(32), 6);
        is("sum", x.checksum(), sums[6]);
        Unwindlens fault = Sample.thread("c 0 3; p 0 4; x 0 0");
        fault.run(9);
        fault.back(1);
        is("not stopped any more", fault.state(0), 'r');
        fails("no fault any more", ELEMENT, fault, () -> fault.fault(0));
        fault.back(1);
        is("the cell", fault.cell(4), 0);
        Unwindlens stack = Lab.stack(0, 1, 2, 3);
        int first = stack.code('c', 0, 50);
        Sample.code(stack, "s 0 0; s 0 1; s 0 2; r 0 0");
        stack.jump(0, first);
        long sum = stack.checksum();
        stack.run(4);
        DOC.yes("there and back", stack.isTrue());
        stack.back(4);
        is("words that were there as the first step was made", stack.checksum(), sum);
        stack.jump(0, 8);
        is("each of them", stack.value(0, 0, 'w', 0) * 100 + stack.value(0, 0, 'x', 0) * 10
                + stack.value(0, 0, 'y', 0), 123);
        says("holds, breakpoints, watches and hits stay as they are.");
        Unwindlens y = loop();
        y.run(2);
        y.hold(0, true);
        y.back(2);
        DOC.yes("held", y.hold(0, false));
        y.watch(2);
        y.stop(1);
        y.pass(0, 1);
        runs("a hit is passed over", y, 9, 3, 'w', 0);
        y.back(3);
        is("hits stay", y.hits(0), 1);
        runs("the breakpoint stays, with nothing to pass over", y, 9, 1, 'b', 0);
        is("hits", y.hits(0), 2);
        runs("the watch stays", y, 9, 2, 'w', 0);
        y.back(1);
        ends("why the last run ended stays too", y, 'w', 0);
    }

    private static void backToBreakpoints() {
        says("Back to a breakpoint goes to the last time ahead of now at which the thread that went then was at a place"
                + " of one that is on, its condition holding.");
        Unwindlens x = loop();
        fails("nothing is kept", ELEMENT, x, () -> x.backTo());
        x.run(10);
        fails("no breakpoint", ELEMENT, x, () -> x.backTo());
        x.stop(1);
        int[] steps = {3, 3, 3};
        for (int back : steps) {
            is("the last one ahead", x.backTo(), back);
            is("place", x.frame(0, 0, 'p'), 1);
        }
        is("time", x.time(), 1);
        fails("not where it is now", ELEMENT, x, () -> x.backTo());
        x.run(5);
        x.pass(0, -1);
        x.run(5);
        fails("off", ELEMENT, x, () -> x.backTo());
        x.pass(0, 99);
        is("those to pass over count", x.backTo(), 2);
        Unwindlens first = loop();
        first.run(1);
        first.stop(0);
        is("the first step that is kept", first.backTo(), 1);
        is("time 0", first.time(), 0);
        Unwindlens y = Sample.named();
        y.stop(4);
        y.stop(7);
        y.when(0, 'x', '=', 5);
        y.when(1, 'x', '=', 5);
        y.pass(0, -1);
        y.run(50);
        fails("one is off, the other does not hold", ELEMENT, y, () -> y.backTo());
        y.pass(0, 0);
        is("the one that holds", y.backTo(), 8);
        Unwindlens turns = Sample.base();
        turns.thread(1);
        turns.run(6);
        turns.stop(11);
        turns.jump(0, 11);
        turns.jump(1, 12);
        turns.hold(0, true);
        turns.run(1);
        fails("a thread that stood there did not go", ELEMENT, turns, () -> turns.backTo());
        turns.hold(0, false);
        is("it is hit", turns.run(1), 0);
        is("it goes", turns.run(1), 1);
        is("at which it went", turns.backTo(), 1);
    }

    private static void byHand() {
        DOC.section("Changes");
        says("Changes by hand. A word of a variable can be set,");
        Unwindlens x = Sample.named();
        x.run(4);
        is("set", x.set(0, 0, 'x', 0, MIN), 5);
        is("it is", x.value(0, 0, 'x', 0), MIN);
        says("a thread put to a place,");
        is("jump", x.jump(0, 9), 2);
        is("it is there", x.frame(0, 0, 'p'), 9);
        says("an instruction replaced,");
        is("patch", x.patch(9, 'h', 0, 0), 'r');
        x.run(1);
        is("it is another one", x.state(0), 'd');
    }

    /** Functions that a thread of function 0 can call; that of 1 puts its registers in the cells 5 to 8. */
    private static Unwindlens callable() {
        Unwindlens x = new Unwindlens();
        Sample.code(x, "c 1 12; c 2 13; c 3 14; e 0 2; s 1 0; n 0 0; h 0 0");
        x.function(0, 6);
        Sample.code(x, "p 0 5; p 1 6; p 2 7; p 3 8; c 0 77; c 3 5; r 0 0");
        x.function(7, 13);
        Sample.code(x, "h 0 0");
        x.function(14, 14);
        x.thread(0);
        return x;
    }

    private static void calls() {
        says("and a function called by a thread, others standing:");
        Unwindlens x = callable();
        x.thread(0);
        x.thread(0);
        x.run(7);
        is("called by thread 1", x.call(1, 1, 3), 77);
        is("thread 0 stands", x.frame(0, 0, 'p'), 3);
        is("thread 1 too then", x.frame(1, 0, 'p'), 2);
        is("thread 2 stands", x.frame(2, 0, 'p'), 2);
        x.hold(0, true);
        is("also one that is held", x.call(0, 1, 3), 77);
        says("its registers 1 to 3 are 0, the register 0 is told,");
        for (int word : new int[] {0, 9, MIN, MAX}) {
            Unwindlens y = callable();
            y.run(4);
            y.call(0, 1, word);
            is("register 0", y.cell(5), word);
            for (int register = 1; register < 4; register++) {
                is("register " + register, y.cell(5 + register), 0);
            }
        }
        says("a word is put on its stack,");
        for (int words = 30; words <= 40; words++) {
            Unwindlens y = sized(words);
            is("words", (long) y.meanStack(), words);
            if (words < 40) {
                is("one is put on " + words, y.call(0, 1, 1), 1);
            } else {
                fails("there is no room", UNSUPPORTED, y, () -> y.call(0, 1, 1));
            }
            if (words < 35) {
                is("five more on " + words, y.call(0, 2, 1), 1);
            } else {
                fails("no room for five more on " + words, UNSUPPORTED, y, () -> y.call(0, 2, 1));
            }
        }
    }

    /** A thread with so many words; function 1 returns at once, function 2 takes five more words first. */
    private static Unwindlens sized(int words) {
        Unwindlens x = Sample.thread("k 0 0; h 0 0");
        Sample.code(x, "r 0 0; e 0 4; x 0 0; r 0 0");
        x.function(2, 2);
        x.function(3, 5);
        x.run(words);
        return x;
    }

    private static void callsThatReturn() {
        says("and it goes from the first place of the function till an 'r' takes that word off,");
        Unwindlens x = Sample.functions();
        x.thread(0);
        is("with an 'x' of its own", x.call(0, 0, 40), 42);
        is("ten steps", x.time(), 10);
        Unwindlens nested = new Unwindlens();
        Sample.code(nested, "n 0 0; h 0 0; k 0 2; c 0 5; k 0 2; r 0 0; r 0 0");
        nested.function(0, 1);
        nested.function(2, 5);
        nested.function(6, 6);
        nested.thread(0);
        is("not an 'r' of a call within", nested.call(0, 1, 1), 5);
        is("all six steps", nested.time(), 6);
        Unwindlens other = Lab.stack(2, 1, 2, 3);
        int first = other.code('x', 0, 0);
        other.code('k', 0, 0);
        other.code('r', 0, 0);
        other.function(first, first + 2);
        fails("an 'x' that takes it off is none", UNSUPPORTED, other, () -> other.call(0, 2, 1));
        fails("nor an 'r' behind that", UNSUPPORTED, another(), () -> another().call(0, 2, 1));
        says("in at most 200 steps,");
        Unwindlens most = callable();
        Sample.code(most, "c 1 1; - 0 1; j 0 16; n 0 0; r 0 0");
        most.function(15, 19);
        Unwindlens more = callable();
        Sample.code(more, "c 1 1; - 0 1; j 0 16; n 0 0; n 0 0; r 0 0");
        more.function(15, 20);
        // Of the word w there are 2 w steps, and one ahead of them.
        is("199", most.call(0, 3, 98), 0);
        is("of the time", most.time(), 199);
        is("200", more.call(0, 3, 98), 0);
        is("of the time", more.time(), 200);
        fails("201", UNSUPPORTED, most, () -> most.call(0, 3, 99));
        fails("202", UNSUPPORTED, more, () -> more.call(0, 3, 99));
        fails("without an end", UNSUPPORTED, more, () -> more.call(0, 3, 0));
        says("no breakpoints and watches being looked at;");
        Unwindlens stopped = callable();
        stopped.run(1);
        stopped.stop(7);
        stopped.stop(13);
        stopped.watch(5);
        is("called", stopped.call(0, 1, 9), 77);
        is("no hit", stopped.hits(0) + stopped.hits(1), 0);
        ends("nothing ended a run", stopped, 'n', -1);
        runs("the watch does not tell it later", stopped, 500, 6, 'd', -1);
        Unwindlens below = Lab.stack(0, 1, 2, 3);
        int reads = below.code('l', 0, 1);
        Sample.code(below, "l 1 2; + 0 1; r 0 0");
        below.function(reads, reads + 3);
        is("it reads the words below", below.call(0, 2, 0), 5);
        says("its registers, stack, base and place are then as they were, cells stay, and the time goes on.");
        Unwindlens y = callable();
        y.run(5);
        Whole due = new Whole().cell(5, 8).thread(5, 1, Whole.registers(0, 12, 13, 14), 'r', 0, 12, 0);
        is("call", y.call(0, 1, 8), 77);
        is("all but the cells", y.checksum(), due.sum());
        is("seven steps more", y.time(), 12);
        runs("goes on", y, 9, 2, 'd', -1);
        Unwindlens low = Lab.stack(0, 1, 2, 3);
        int change = low.code('c', 0, 50);
        Sample.code(low, "s 0 0; s 0 1; s 0 2; e 0 0; x 0 0; r 0 0");
        low.function(change, change + 6);
        long sum = low.checksum();
        is("one that changes words below", low.call(0, 2, 1), 50);
        is("they are as they were", low.checksum(), sum);
    }

    /** A call of its function 2 takes the word off by an 'x', and then another one, put in its place, by an 'r'. */
    private static Unwindlens another() {
        Unwindlens x = Lab.stack(4, 1, 2, 3);
        int first = x.code('x', 0, 0);
        Sample.code(x, "k 0 3; r 0 0; r 0 0");
        x.function(first, first + 2);
        x.function(first + 3, first + 3);
        return x;
    }

    private static void callsThatDoNotReturn() {
        says("If it does not return so, all is as it was.");
        Unwindlens x = callable();
        x.thread(0);
        Sample.code(x, "p 0 1; x 0 0; r 0 0; p 0 1; k 0 5; p 0 1; j 0 20; p 0 1; l 0 3");
        x.function(15, 17);
        x.function(18, 19);
        x.function(20, 21);
        x.stop(5);
        x.watch(1);
        x.run(3);
        x.hold(1, true);
        long sum = x.checksum();
        for (int function = 2; function < 6; function++) {
            int one = function;
            fails("function " + function, UNSUPPORTED, x, () -> x.call(0, one, 1));
            is("sum", x.checksum(), sum);
            is("time", x.time(), 3);
            is("state", x.state(0), 'r');
            is("cell", x.cell(1), 0);
        }
        runs("whose turn it is, and the breakpoint", x, 9, 3, 'b', 0);
        fails("once more", UNSUPPORTED, x, () -> x.call(0, 2, 1));
        runs("not hit again", x, 1, 1, 'n', -1);
        is("what is kept", x.back(7), 0);
    }

    private static void behindByHand() {
        says("Behind a change by hand, or a going back, watches look at words anew, and those in slots that are not"
                + " there end.");
        Unwindlens set = loop();
        set.scope(0, 3);
        set.variable(0, 'v', 'i', 1);
        set.where(0, 0, 3, 'g', 2);
        set.watch(2);
        set.set(0, 0, 'v', 0, 1);
        runs("set to what it becomes", set, 5, 5, 'n', -1);
        runs("the next", set, 5, 1, 'w', 0);
        Unwindlens call = callable();
        call.watch(5);
        call.call(0, 1, 9);
        runs("changed by a call", call, 50, 7, 'd', -1);
        Unwindlens back = loop();
        back.watch(2);
        back.run(50);
        back.run(50);
        back.back(2);
        is("the word of then", back.cell(2), 1);
        runs("becomes another one again", back, 50, 2, 'w', 0);
        back.back(3);
        runs("to the same word", back, 50, 3, 'w', 0);
        Unwindlens to = loop();
        to.stop(1);
        to.pass(0, 99);
        to.watch(2);
        to.run(50);
        is("back to a breakpoint", to.backTo(), 2);
        runs("looked at anew too", to, 50, 2, 'w', 0);
        Unwindlens ends = Sample.named();
        ends.run(4);
        ends.watchName(0, 0, 'x');
        ends.watch(3);
        ends.back(2);
        runs("ended, and not told by a run", ends, 50, 11, 'w', 1);
        Unwindlens stays = Sample.named();
        stays.run(5);
        stays.watchName(0, 0, 'x');
        stays.back(2);
        is("its word then", stays.frame(0, 0, 'p'), 1);
        runs("one that is there still", stays, 50, 1, 'w', 0);
    }

    /** What a run of calls answers; the same for two objects that are in the same state. */
    private static String story(Unwindlens x) {
        StringBuilder story = new StringBuilder();
        story.append(Digest.of(x)).append(x.run(5)).append(x.reason());
        story.append(Digest.answerOf(() -> x.backTo())).append(x.run(500)).append(x.reason());
        story.append(Digest.answerOf(() -> x.watch(0))).append(Digest.answerOf(() -> x.stop(0)));
        story.append(Digest.answerOf(() -> x.back(3))).append(x.run(500)).append(x.reason());
        story.append(Digest.answerOf(() -> x.scope(0, 0))).append(Digest.answerOf(() -> x.function(15, 15)));
        story.append(Digest.answerOf(() -> x.code('n', 0, 0))).append(Digest.answerOf(() -> x.thread(0)));
        return story.append(Digest.of(x)).toString();
    }

    /** Stopped at the place 4 by a breakpoint that has hits to pass over, with a watch and something shown. */
    private static Unwindlens midway() {
        Unwindlens x = Sample.named();
        Sample.code(x, "n 0 0; n 0 0");
        x.thread(1);
        x.stop(4);
        x.stop(7);
        x.pass(1, 1);
        x.watch(3);
        x.inlined(2, 5, 1, 9);
        x.variable(0, 'n', 'i', 1);
        x.where(1, 0, 9, '#', 4);
        x.run(50);
        x.show(0, 1, 'x');
        return x;
    }

    private interface Call {
        Object on(Unwindlens x);
    }

    private static void exceptions() {
        DOC.section("Exceptions.");
        says("Exceptions. A method that throws an exception changes nothing.");
        String due = story(midway());
        Call[] calls = {
            x -> x.code('q', 0, 0), x -> x.code('c', 4, 0), x -> x.patch(16, 'n', 0, 0), x -> x.patch(4, 'e', 0, 5),
            x -> x.function(0, 16), x -> x.function(14, 13), x -> x.function(9, 14), x -> x.line(16, 0),
            x -> x.line(4, 100), x -> x.rule(16, 'i'), x -> x.rule(4, 'x'), x -> x.inlined(0, 16, 0, 0),
            x -> x.inlined(0, 1, 2, 0), x -> x.inlined(0, 1, 0, 100), x -> x.inlined(1, 0, 0, 0),
            x -> x.inlined(5, 6, 0, 0), x -> x.inlined(2, 5, 0, 0), x -> x.scope(0, 16), x -> x.scope(1, 0),
            x -> x.scope(5, 6), x -> x.variable(1, 'x', 'i', 1), x -> x.variable(0, 'X', 'i', 1),
            x -> x.variable(0, 'x', 'q', 1), x -> x.variable(0, 'x', 'i', 5), x -> x.where(2, 4, 4, 'r', 0),
            x -> x.where(0, 4, 16, 'r', 0), x -> x.where(0, 4, 3, 'r', 0), x -> x.where(0, 4, 4, 'q', 0),
            x -> x.where(0, 4, 4, 'r', 4), x -> x.thread(2), x -> x.fault(0), x -> x.hold(2, true),
            x -> x.value(0, 1, 'x', 1), x -> x.show(0, 9, 'x'), x -> x.show(0, 0, 'X'), x -> x.show(0, 0, 'q'),
            x -> x.shown(1), x -> x.stop(16), x -> x.stopLine(5), x -> x.stopIn(2), x -> x.when(2, 'x', '=', 0),
            x -> x.when(0, 'X', '=', 0), x -> x.when(0, 'x', '!', 0), x -> x.pass(2, 3), x -> x.pass(0, 100),
            x -> x.pass(1, -2), x -> x.watch(16), x -> x.watchName(0, 9, 'x'), x -> x.watchName(0, 1, 'X'),
            x -> x.watchName(0, 1, 'q'), x -> x.watchName(0, 1, 'n'), x -> x.run(0), x -> x.run(501),
            x -> x.stepLine(2, 'i'), x -> x.stepLine(0, 'q'), x -> x.back(0), x -> x.back(1001), x -> x.back(99),
            x -> x.set(0, 9, 'x', 0, 1), x -> x.set(0, 1, 'x', 1, 1), x -> x.set(0, 1, 'X', 0, 1),
            x -> x.set(0, 1, 'q', 0, 1), x -> x.set(0, 1, 'n', 0, 1), x -> x.jump(2, 0), x -> x.jump(0, 16),
            x -> x.call(2, 0, 0), x -> x.call(0, 2, 0), x -> x.call(0, 1, 5)};
        for (int i = 0; i < calls.length; i++) {
            Unwindlens x = midway();
            Call call = calls[i];
            String answer = Digest.answerOf(() -> call.on(x));
            DOC.yes("call " + i + " throws, not " + answer, answer.endsWith("Exception"));
            DOC.is("call " + i + " changes nothing", story(x), due);
        }
    }

    /** All that can be told is told as often as it can be, and all threads are done. */
    private static Unwindlens crowded() {
        Unwindlens x = Sample.named();
        for (int place = 14; place < 60; place++) {
            x.code('n', 0, 0);
        }
        for (int function = 2; function < 6; function++) {
            x.function(12 + function, 12 + function);
        }
        for (int call = 0; call < 6; call++) {
            x.inlined(20 + call, 20 + call, 0, 0);
        }
        for (int scope = 1; scope < 12; scope++) {
            x.scope(10, 13);
        }
        for (int variable = 1; variable < 20; variable++) {
            x.variable(11, (char) ('a' + variable), 'i', variable % 2 + 1);
        }
        for (int row = 1; row < 24; row++) {
            x.where(row % 20, 10, 13, row % 20 == 2 ? '#' : 'g', 15);
        }
        for (int breakpoint = 0; breakpoint < 8; breakpoint++) {
            x.stop(30);
        }
        for (int watch = 0; watch < 4; watch++) {
            x.watch(9);
        }
        x.thread(1);
        x.thread(1);
        x.run(500);
        return x;
    }

    private static void exceptionsInOrder() {
        says("If several exceptions apply, the exception listed first is thrown.");
        Unwindlens x = crowded();
        fails("code: kind, full", ARGUMENT, x, () -> x.code('q', 0, 0));
        fails("patch: place, kind", INDEX, x, () -> x.patch(60, 'q', 0, 0));
        fails("function: all", INDEX, x, () -> x.function(60, 9));
        fails("function: place, part of others, full", INDEX, x, () -> x.function(0, 60));
        fails("function: turned, part of others, full", ARGUMENT, x, () -> x.function(9, 0));
        fails("function: turned, full", ARGUMENT, x, () -> x.function(41, 40));
        fails("function: part of others, full", UNSUPPORTED, x, () -> x.function(9, 9));
        fails("function: full", STATE, x, () -> x.function(40, 41));
        fails("line: place, line", INDEX, x, () -> x.line(60, 100));
        fails("rule: place, rule", INDEX, x, () -> x.rule(60, 'q'));
        fails("inlined: place, turned, line, full", INDEX, x, () -> x.inlined(60, 9, 0, 100));
        fails("inlined: function, turned, line, full", INDEX, x, () -> x.inlined(10, 9, 6, 100));
        fails("inlined: turned, part of others, full", ARGUMENT, x, () -> x.inlined(10, 9, 0, 0));
        fails("inlined: line, part of others, full", ARGUMENT, x, () -> x.inlined(9, 10, 0, -1));
        fails("inlined: part of others, full", UNSUPPORTED, x, () -> x.inlined(9, 10, 0, 0));
        fails("inlined: the same, full", UNSUPPORTED, x, () -> x.inlined(20, 20, 0, 0));
        fails("inlined: full", STATE, x, () -> x.inlined(40, 41, 0, 0));
        fails("scope: place, turned", INDEX, x, () -> x.scope(60, 9));
        fails("scope: turned, full", ARGUMENT, x, () -> x.scope(10, 9));
        fails("scope: part of others, full", UNSUPPORTED, x, () -> x.scope(9, 10));
        fails("scope: full", STATE, x, () -> x.scope(10, 13));
        fails("variable: scope, letter, kind, words", INDEX, x, () -> x.variable(12, 'A', 'q', 9));
        fails("variable: letter, full", ARGUMENT, x, () -> x.variable(0, 'A', 'i', 1));
        fails("variable: kind, full", ARGUMENT, x, () -> x.variable(0, 'a', 'q', 1));
        fails("variable: words, full", ARGUMENT, x, () -> x.variable(0, 'a', 'i', 0));
        fails("variable: full", STATE, x, () -> x.variable(0, 'a', 'i', 1));
        fails("where: variable, turned", INDEX, x, () -> x.where(20, 9, 8, 'q', 0));
        fails("where: place, kind", INDEX, x, () -> x.where(0, 9, 60, 'q', 0));
        fails("where: turned, full", ARGUMENT, x, () -> x.where(0, 9, 8, 'r', 0));
        fails("where: kind, full", ARGUMENT, x, () -> x.where(0, 8, 9, 'q', 0));
        fails("where: number, full", ARGUMENT, x, () -> x.where(0, 8, 9, 'r', 4));
        fails("where: full", STATE, x, () -> x.where(0, 8, 9, 'r', 0));
        fails("thread: function, full", INDEX, x, () -> x.thread(6));
        fails("thread: full", STATE, x, () -> x.thread(0));
        exceptionsOfFrames(x);
        exceptionsOfRuns(x);
    }

    /** At the first frame 'b' is gone, as its second word is above the cell 15, 'c' is a number, 'd' a cell. */
    private static void exceptionsOfFrames(Unwindlens x) {
        x.patch(13, 'h', 0, 0);
        fails("frame: frame, thing", INDEX, x, () -> x.frame(0, 1, 'q'));
        fails("see: frame, letter", INDEX, x, () -> x.see(0, 1, 'X'));
        fails("value: frame, letter, word", INDEX, x, () -> x.value(0, 1, 'X', 9));
        fails("value: letter, no such name", ARGUMENT, x, () -> x.value(0, 0, 'X', 9));
        fails("value: word, gone", INDEX, x, () -> x.value(0, 0, 'b', 2));
        fails("value: gone", ELEMENT, x, () -> x.value(0, 0, 'b', 1));
        fails("value: no such name", ELEMENT, x, () -> x.value(0, 0, 'v', 9));
        fails("show: frame, letter", INDEX, x, () -> x.show(3, 0, 'X'));
        fails("show: letter, no such name", ARGUMENT, x, () -> x.show(0, 0, 'X'));
        fails("watchName: frame, letter, full", INDEX, x, () -> x.watchName(0, 1, 'X'));
        fails("watchName: letter, no such name, full", ARGUMENT, x, () -> x.watchName(0, 0, 'X'));
        fails("watchName: no such name, full", ELEMENT, x, () -> x.watchName(0, 0, 'v'));
        fails("watchName: gone, full", UNSUPPORTED, x, () -> x.watchName(0, 0, 'b'));
        fails("watchName: a number, full", UNSUPPORTED, x, () -> x.watchName(0, 0, 'c'));
        fails("watchName: full", STATE, x, () -> x.watchName(0, 0, 'e'));
        fails("set: frame, letter", INDEX, x, () -> x.set(0, 1, 'X', 0, 0));
        fails("set: word, gone", INDEX, x, () -> x.set(0, 0, 'b', 2, 0));
        fails("set: word, a number", INDEX, x, () -> x.set(0, 0, 'c', 1, 0));
        fails("set: letter, no such name", ARGUMENT, x, () -> x.set(0, 0, 'X', 9, 0));
        fails("set: gone", ELEMENT, x, () -> x.set(0, 0, 'b', 0, 0));
        fails("set: a number", UNSUPPORTED, x, () -> x.set(0, 0, 'c', 0, 0));
    }

    private static void exceptionsOfRuns(Unwindlens x) {
        fails("stop: place, full", INDEX, x, () -> x.stop(60));
        fails("stop: full", STATE, x, () -> x.stop(59));
        fails("stopLine: line, full", ELEMENT, x, () -> x.stopLine(1));
        fails("stopIn: function, full", INDEX, x, () -> x.stopIn(6));
        fails("stopIn: full", STATE, x, () -> x.stopIn(5));
        fails("when: breakpoint, letter, sign", INDEX, x, () -> x.when(8, 'X', '!', 0));
        fails("pass: breakpoint, number", INDEX, x, () -> x.pass(8, 100));
        fails("watch: cell, full", INDEX, x, () -> x.watch(16));
        fails("watch: full", STATE, x, () -> x.watch(15));
        fails("stepLine: thread, way", INDEX, x, () -> x.stepLine(3, 'q'));
        fails("stepLine: way, not ready", ARGUMENT, x, () -> x.stepLine(0, 'q'));
        fails("stepLine: not ready", UNSUPPORTED, x, () -> x.stepLine(0, 'i'));
        fails("back: number, not kept", ARGUMENT, x, () -> x.back(1001));
        fails("back: not kept", UNSUPPORTED, x, () -> x.back(1000));
        fails("jump: place, not ready", INDEX, x, () -> x.jump(0, 60));
        fails("jump: not ready", UNSUPPORTED, x, () -> x.jump(0, 59));
        fails("call: function, not ready", INDEX, x, () -> x.call(0, 6, 0));
        fails("call: not ready", UNSUPPORTED, x, () -> x.call(0, 5, 0));
        x.line(0, 1);
        fails("stopLine: full", STATE, x, () -> x.stopLine(1));
    }
}
