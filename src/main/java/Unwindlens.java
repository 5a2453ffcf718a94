import java.util.NoSuchElementException;

/** A debugger with its target. The document ../shared/DOC.md tells what each call answers. */
public final class Unwindlens {
    private static final int PLACES = 60;
    private static final int REGISTERS = 4;
    private static final int SLOTS = 4;
    private static final int CELLS = 16;
    private static final int WORDS = 40;
    private static final int FUNCTIONS = 6;
    private static final int THREADS = 3;
    private static final int LINES = 100;
    private static final int CALLS = 6;
    private static final int SCOPES = 12;
    private static final int VARIABLES = 20;
    private static final int VARIABLE_WORDS = 4;
    private static final int HOMES = 24;
    private static final int FRAMES = 12;
    private static final int BREAKPOINTS = 8;
    private static final int PASSED = 99;
    private static final int WATCHES = 4;
    private static final int KEPT = 1000;
    private static final int RUN_STEPS = 500;
    private static final int ALONE_STEPS = 200;

    /** No such number: function, line, call, variable, breakpoint or watch. */
    private static final int NONE = -1;
    /** No such letter: rule of its own, fault, condition, reason or place of a value. */
    private static final char NO = '-';

    private final Program program = new Program();
    private final Names names = new Names(program);
    private final Breakpoints breakpoints = new Breakpoints(program, names);
    private final Watches watches = new Watches();
    private final Target now = new Target();
    /** What a call by hand or a look at the past works on, so that the target itself stays as it is. */
    private final Target trial = new Target();
    private final History history = new History(program);
    private final boolean[] held = new boolean[THREADS];
    private final Unwinding unwinding = new Unwinding(program);
    private final View view = new View();
    private final Spot spot = new Spot();
    private final StringBuilder signs = new StringBuilder();
    private char ending = NO;
    private int ender = NONE;

    public Unwindlens() {
    }

    public int code(char kind, int a, int b) throws IllegalArgumentException, IllegalStateException {
        needInstruction(kind, a, b);
        if (program.isFull()) {
            throw new IllegalStateException("there are 60 instructions");
        }
        int place = program.append(kind, a, b);
        history.begin(now);
        return place;
    }

    public char patch(int place, char kind, int a, int b) throws IndexOutOfBoundsException, IllegalArgumentException {
        needPlace(place);
        needInstruction(kind, a, b);
        char before = program.kindAt(place);
        program.put(place, kind, a, b);
        changedByHand();
        return before;
    }

    public int function(int first, int last) throws IndexOutOfBoundsException, IllegalArgumentException,
            UnsupportedOperationException, IllegalStateException {
        needPlace(first);
        needPlace(last);
        needOrder(first, last);
        if (program.functions.touchesAny(first, last) || program.calls.isAnyPartlyIn(first, last)) {
            throw new UnsupportedOperationException("not apart from a function, or a part of an inlined call");
        }
        if (program.functions.isFull()) {
            throw new IllegalStateException("there are 6 functions");
        }
        int function = program.functions.add(first, last);
        history.begin(now);
        return function;
    }

    public int line(int place, int line) throws IndexOutOfBoundsException, IllegalArgumentException {
        needPlace(place);
        if (line != NONE && !isBelow(line, LINES)) {
            throw new IllegalArgumentException("no such line");
        }
        int before = program.lineAt(place);
        program.putLine(place, line);
        return before;
    }

    public char rule(int place, char rule) throws IndexOutOfBoundsException, IllegalArgumentException {
        needPlace(place);
        if (rule != 'i' && rule != 'o' && rule != NO) {
            throw new IllegalArgumentException("no such rule");
        }
        char before = program.ruleAt(place);
        program.putRule(place, rule);
        return before;
    }

    public int inlined(int first, int last, int function, int line) throws IndexOutOfBoundsException,
            IllegalArgumentException, UnsupportedOperationException, IllegalStateException {
        needPlace(first);
        needPlace(last);
        needFunction(function);
        needOrder(first, last);
        if (!isBelow(line, LINES)) {
            throw new IllegalArgumentException("no such line");
        }
        if (program.functions.hasAnyPart(first, last) || program.calls.crossesAny(first, last)
                || names.scopes.crossesAny(first, last) || program.calls.hasSame(first, last)) {
            throw new UnsupportedOperationException("partly in something, or told already");
        }
        if (program.calls.isFull()) {
            throw new IllegalStateException("there are 6 inlined calls");
        }
        return program.addCall(first, last, function, line);
    }

    public int scope(int first, int last) throws IndexOutOfBoundsException, IllegalArgumentException,
            UnsupportedOperationException, IllegalStateException {
        needPlace(first);
        needPlace(last);
        needOrder(first, last);
        if (names.scopes.crossesAny(first, last) || program.calls.crossesAny(first, last)) {
            throw new UnsupportedOperationException("partly in a scope or an inlined call");
        }
        if (names.scopes.isFull()) {
            throw new IllegalStateException("there are 12 scopes");
        }
        return names.scopes.add(first, last);
    }

    public int variable(int scope, char letter, char kind, int words) throws IndexOutOfBoundsException,
            IllegalArgumentException, IllegalStateException {
        if (!names.scopes.isRow(scope)) {
            throw new IndexOutOfBoundsException("no such scope");
        }
        needLetter(letter);
        if (kind != 'i' && kind != 'b' && kind != 'c') {
            throw new IllegalArgumentException("no such kind");
        }
        if (words < 1 || words > VARIABLE_WORDS) {
            throw new IllegalArgumentException("no such number of words");
        }
        if (names.isFull()) {
            throw new IllegalStateException("there are 20 variables");
        }
        return names.addVariable(scope, letter, kind, words);
    }

    public int where(int variable, int first, int last, char kind, int number) throws IndexOutOfBoundsException,
            IllegalArgumentException, IllegalStateException {
        if (!names.isVariable(variable)) {
            throw new IndexOutOfBoundsException("no such variable");
        }
        needPlace(first);
        needPlace(last);
        needOrder(first, last);
        if (!Names.isHome(kind, number)) {
            throw new IllegalArgumentException("no such kind, or the number is out of range");
        }
        if (names.homes.isFull()) {
            throw new IllegalStateException("there are 24 rows");
        }
        return names.addHome(variable, first, last, kind, number);
    }

    public int thread(int function) throws IndexOutOfBoundsException, IllegalStateException {
        needFunction(function);
        if (now.isFull()) {
            throw new IllegalStateException("there are 3 threads");
        }
        int thread = now.addTask(program.functions.firstOf(function));
        history.begin(now);
        return thread;
    }

    public char state(int thread) throws IndexOutOfBoundsException {
        needThread(thread);
        return now.taskAt(thread).state;
    }

    public char fault(int thread) throws IndexOutOfBoundsException, NoSuchElementException {
        needThread(thread);
        char letter = now.taskAt(thread).fault;
        if (letter == NO) {
            throw new NoSuchElementException("no fault");
        }
        return letter;
    }

    public boolean hold(int thread, boolean is) throws IndexOutOfBoundsException {
        needThread(thread);
        boolean before = isHeld(thread);
        if (isBelow(thread, THREADS)) {
            held[thread] = is;
        }
        return before;
    }

    public int register(int thread, int register) throws IndexOutOfBoundsException {
        needThread(thread);
        if (!isBelow(register, REGISTERS)) {
            throw new IndexOutOfBoundsException("no such register");
        }
        return now.taskAt(thread).registerAt(register);
    }

    public int cell(int cell) throws IndexOutOfBoundsException {
        needCell(cell);
        return now.cellAt(cell);
    }

    public int time() {
        return now.time;
    }

    public int frames(int thread) throws IndexOutOfBoundsException {
        needThread(thread);
        unwinding.unwind(now.taskAt(thread));
        return unwinding.shownCount();
    }

    public int frame(int thread, int frame, char what) throws IndexOutOfBoundsException, IllegalArgumentException {
        needFrame(thread, frame);
        switch (what) {
            case 'f':
                return view.call == NONE ? program.functionAt(view.place) : program.callFunctionOf(view.call);
            case 'p':
                return view.place;
            case 'l':
                return view.line;
            case 'i':
                return view.call == NONE ? 0 : 1;
            case 'b':
                return view.base;
            default:
                throw new IllegalArgumentException("no such thing");
        }
    }

    public char see(int thread, int frame, char letter) throws IndexOutOfBoundsException, IllegalArgumentException {
        needFrame(thread, frame);
        needLetter(letter);
        int variable = findVariable(letter);
        if (variable == NONE) {
            return 'n';
        }
        return spot.isGone() ? 'g' : 'v';
    }

    public int value(int thread, int frame, char letter, int index) throws IndexOutOfBoundsException,
            IllegalArgumentException, NoSuchElementException {
        needWord(thread, frame, letter, index);
        return spot.wordOf(now, index);
    }

    public int show(int thread, int frame, char letter) throws IndexOutOfBoundsException, IllegalArgumentException,
            NoSuchElementException {
        needFrame(thread, frame);
        needLetter(letter);
        int variable = findVariable(letter);
        needName(variable);
        signs.setLength(0);
        if (spot.isGone()) {
            signs.append("gone");
        } else {
            showWords(variable);
        }
        return signs.length();
    }

    public char shown(int index) throws IndexOutOfBoundsException {
        if (!isBelow(index, signs.length())) {
            throw new IndexOutOfBoundsException("no such sign");
        }
        return signs.charAt(index);
    }

    public int stop(int place) throws IndexOutOfBoundsException, IllegalStateException {
        needPlace(place);
        needRoomForBreakpoint();
        return breakpoints.add(1L << place);
    }

    public int stopLine(int line) throws NoSuchElementException, IllegalStateException {
        long places = program.placesBeginning(line);
        if (places == 0) {
            throw new NoSuchElementException("the line begins nowhere");
        }
        needRoomForBreakpoint();
        return breakpoints.add(places);
    }

    public int stopIn(int function) throws IndexOutOfBoundsException, IllegalStateException {
        needFunction(function);
        needRoomForBreakpoint();
        return breakpoints.add(1L << program.entryOf(function));
    }

    public int when(int breakpoint, char letter, char how, int number) throws IndexOutOfBoundsException,
            IllegalArgumentException {
        needBreakpoint(breakpoint);
        if (letter != NO && !isSmall(letter)) {
            throw new IllegalArgumentException("no small letter");
        }
        if (letter != NO && how != '<' && how != '=' && how != '>') {
            throw new IllegalArgumentException("no such sign");
        }
        breakpoints.putCondition(breakpoint, letter, how, number);
        return breakpoints.hitsOf(breakpoint);
    }

    public int pass(int breakpoint, int hits) throws IndexOutOfBoundsException, IllegalArgumentException {
        needBreakpoint(breakpoint);
        if (hits < -1 || hits > PASSED) {
            throw new IllegalArgumentException("the number is out of range");
        }
        breakpoints.putPassing(breakpoint, hits);
        return breakpoints.hitsOf(breakpoint);
    }

    public int hits(int breakpoint) throws IndexOutOfBoundsException {
        needBreakpoint(breakpoint);
        return breakpoints.hitsOf(breakpoint);
    }

    public int watch(int cell) throws IndexOutOfBoundsException, IllegalStateException {
        needCell(cell);
        needRoomForWatch();
        spot.become('g', NONE, cell);
        return watches.add(spot, now);
    }

    public int watchName(int thread, int frame, char letter) throws IndexOutOfBoundsException,
            IllegalArgumentException, NoSuchElementException, UnsupportedOperationException, IllegalStateException {
        needFrame(thread, frame);
        needLetter(letter);
        needName(findVariable(letter));
        if (!spot.isMemory()) {
            throw new UnsupportedOperationException("in no slots or cells");
        }
        needRoomForWatch();
        return watches.add(spot, now);
    }

    public int run(int steps) throws IllegalArgumentException {
        if (steps < 1 || steps > RUN_STEPS) {
            throw new IllegalArgumentException("the number is out of range");
        }
        endBy('n', NONE);
        for (int made = 0; made < steps; made++) {
            int thread = nextThread();
            if (thread == NONE) {
                endBy('d', NONE);
                return made;
            }
            if (isHit(thread)) {
                return made;
            }
            step(thread);
            if (isWatched()) {
                return made + 1;
            }
        }
        return steps;
    }

    public int stepLine(int thread, char way) throws IndexOutOfBoundsException, IllegalArgumentException,
            UnsupportedOperationException {
        needThread(thread);
        if (way != 'i' && way != 'o' && way != 'u') {
            throw new IllegalArgumentException("no such way");
        }
        Task task = now.taskAt(thread);
        if (!task.isReady() || isHeld(thread)) {
            throw new UnsupportedOperationException("not ready, or held");
        }
        unwinding.unwind(task);
        int limit = way == 'u' ? unwinding.sizeBehindFirst() : unwinding.count;
        long calls = program.callsAt(task.place);
        endBy('n', NONE);
        for (int made = 0; made < ALONE_STEPS; made++) {
            if (isHit(thread)) {
                return made;
            }
            step(thread);
            if (isWatched()) {
                return made + 1;
            }
            if (!task.isReady()) {
                endBy('d', NONE);
                return made + 1;
            }
            if (isThere(task, way, limit, calls)) {
                return made + 1;
            }
        }
        return ALONE_STEPS;
    }

    public char reason() {
        return ending;
    }

    public int which() throws NoSuchElementException {
        if (ender == NONE) {
            throw new NoSuchElementException("no breakpoint and no watch ended it");
        }
        return ender;
    }

    public int back(int steps) throws IllegalArgumentException, UnsupportedOperationException {
        if (steps < 1 || steps > KEPT) {
            throw new IllegalArgumentException("the number is out of range");
        }
        if (steps > history.count) {
            throw new UnsupportedOperationException("so many steps are not kept");
        }
        goBack(steps);
        return now.time;
    }

    public int backTo() throws NoSuchElementException {
        int steps = stepsBackToBreakpoint();
        if (steps == 0) {
            throw new NoSuchElementException("no such time is kept");
        }
        goBack(steps);
        return steps;
    }

    public int set(int thread, int frame, char letter, int index, int word) throws IndexOutOfBoundsException,
            IllegalArgumentException, NoSuchElementException, UnsupportedOperationException {
        needWord(thread, frame, letter, index);
        if (spot.kind == '#') {
            throw new UnsupportedOperationException("a number itself");
        }
        int before = spot.wordOf(now, index);
        spot.putWord(now, index, word);
        changedByHand();
        return before;
    }

    public int jump(int thread, int place) throws IndexOutOfBoundsException, UnsupportedOperationException {
        needThread(thread);
        needPlace(place);
        Task task = now.taskAt(thread);
        if (!task.isReady()) {
            throw new UnsupportedOperationException("the thread is not ready");
        }
        int before = task.place;
        task.place = place;
        changedByHand();
        return before;
    }

    public int call(int thread, int function, int word) throws IndexOutOfBoundsException,
            UnsupportedOperationException {
        needThread(thread);
        needFunction(function);
        if (!now.taskAt(thread).isReady()) {
            throw new UnsupportedOperationException("the thread is not ready");
        }
        trial.copyFrom(now);
        if (!returnsInTrial(thread, function, word)) {
            throw new UnsupportedOperationException("the function does not return");
        }
        int result = trial.taskAt(thread).registerAt(0);
        trial.taskAt(thread).copyFrom(now.taskAt(thread));
        now.copyFrom(trial);
        changedByHand();
        return result;
    }

    public float doneShare() throws ArithmeticException {
        float all = (float) now.count;
        if (all == 0) {
            throw new ArithmeticException("no threads");
        }
        return (float) now.doneCount() / all;
    }

    public double meanStack() throws ArithmeticException {
        double all = (double) now.count;
        if (all == 0) {
            throw new ArithmeticException("no threads");
        }
        return (double) now.stackWords() / all;
    }

    public long checksum() {
        return now.sum();
    }

    public boolean isTrue() {
        history.replay(trial, history.count);
        if (trial.sum() != now.sum()) {
            return false;
        }
        for (int thread = 0; thread < now.count; thread++) {
            unwinding.unwind(now.taskAt(thread));
            if (!unwinding.isAllCode()) {
                return false;
            }
        }
        return true;
    }

    private static boolean isBelow(int number, int limit) {
        return number >= 0 && number < limit;
    }

    private static boolean isSmall(char letter) {
        return letter >= 'a' && letter <= 'z';
    }

    private static void needInstruction(char kind, int a, int b) {
        if (!Program.isInstruction(kind, a, b)) {
            throw new IllegalArgumentException("no such kind, or a number is out of range");
        }
    }

    private static void needOrder(int first, int last) {
        if (last < first) {
            throw new IllegalArgumentException("the last place is ahead of the first one");
        }
    }

    private static void needLetter(char letter) {
        if (!isSmall(letter)) {
            throw new IllegalArgumentException("no small letter");
        }
    }

    private static void needName(int variable) {
        if (variable == NONE) {
            throw new NoSuchElementException("no such name");
        }
    }

    private static void needCell(int cell) {
        if (!isBelow(cell, CELLS)) {
            throw new IndexOutOfBoundsException("no such cell");
        }
    }

    private void needPlace(int place) {
        if (!program.hasPlace(place)) {
            throw new IndexOutOfBoundsException("no such place");
        }
    }

    private void needFunction(int function) {
        if (!program.functions.isRow(function)) {
            throw new IndexOutOfBoundsException("no such function");
        }
    }

    private void needThread(int thread) {
        if (!isBelow(thread, now.count)) {
            throw new IndexOutOfBoundsException("no such thread");
        }
    }

    private void needBreakpoint(int breakpoint) {
        if (!breakpoints.isBreakpoint(breakpoint)) {
            throw new IndexOutOfBoundsException("no such breakpoint");
        }
    }

    private void needRoomForBreakpoint() {
        if (breakpoints.isFull()) {
            throw new IllegalStateException("there are 8 breakpoints");
        }
    }

    private void needRoomForWatch() {
        if (watches.isFull()) {
            throw new IllegalStateException("there are 4 watches");
        }
    }

    /** Leaves the frame in the view. */
    private void needFrame(int thread, int frame) {
        needThread(thread);
        unwinding.unwind(now.taskAt(thread));
        if (!unwinding.choose(frame, view)) {
            throw new IndexOutOfBoundsException("no such frame");
        }
        view.thread = thread;
    }

    /** Leaves where the variable is in the spot; the variable is not gone. */
    private void needWord(int thread, int frame, char letter, int index) {
        needFrame(thread, frame);
        needLetter(letter);
        int variable = findVariable(letter);
        if (variable != NONE && !isBelow(index, names.wordsOf(variable))) {
            throw new IndexOutOfBoundsException("no such word");
        }
        needName(variable);
        if (spot.isGone()) {
            throw new NoSuchElementException("it is gone");
        }
    }

    /** What the letter means in the view, with its place in the spot. */
    private int findVariable(char letter) {
        int variable = names.meaningOf(view, letter);
        names.locate(variable, view, spot);
        return variable;
    }

    private void showWords(int variable) {
        int words = names.wordsOf(variable);
        char kind = names.kindOf(variable);
        if (words > 1) {
            signs.append('{');
        }
        for (int index = 0; index < words; index++) {
            if (index > 0) {
                signs.append(", ");
            }
            showWord(kind, spot.wordOf(now, index));
        }
        if (words > 1) {
            signs.append('}');
        }
    }

    private void showWord(char kind, int word) {
        if (kind == 'b') {
            signs.append(word != 0 ? "true" : "false");
        } else if (kind == 'c' && word >= 32 && word <= 126) {
            signs.append('\'').append((char) word).append('\'');
        } else {
            signs.append(word);
        }
    }

    private boolean isHeld(int thread) {
        return isBelow(thread, THREADS) && held[thread];
    }

    private int nextThread() {
        for (int ahead = 1; ahead <= now.count; ahead++) {
            int thread = now.last + ahead;
            if (thread >= now.count) {
                thread -= now.count;
            }
            if (now.taskAt(thread).isReady() && !isHeld(thread)) {
                return thread;
            }
        }
        return NONE;
    }

    private void endBy(char why, int number) {
        ending = why;
        ender = number;
    }

    private boolean isHit(int thread) {
        int breakpoint = breakpoints.lowestHit(now, thread);
        if (!breakpoints.stopsBy(breakpoint, thread)) {
            return false;
        }
        endBy('b', breakpoint);
        return true;
    }

    private void step(int thread) {
        history.keep(now, thread);
        now.step(program, thread);
        breakpoints.forgetStops(thread);
    }

    private boolean isWatched() {
        int watch = watches.firstChanged(now);
        if (watch != NONE) {
            endBy(watches.hasEnded(watch) ? 'e' : 'w', watch);
        }
        return watch != NONE;
    }

    private boolean isThere(Task task, char way, int limit, long callsAtFirst) {
        if (way == 'u') {
            return task.size <= limit;
        }
        if (!program.beginsLine(task.place)) {
            return false;
        }
        if (way == 'i') {
            return true;
        }
        unwinding.unwind(task);
        return unwinding.count <= limit && (program.callsAt(task.place) & ~callsAtFirst) == 0;
    }

    private void changedByHand() {
        history.begin(now);
        breakpoints.forgetAllStops();
        watches.lookAnew(now);
    }

    private void goBack(int steps) {
        history.replay(now, history.count - steps);
        history.count -= steps;
        breakpoints.forgetAllStops();
        watches.lookAnew(now);
    }

    private int stepsBackToBreakpoint() {
        int steps = 0;
        history.replay(trial, 0);
        for (int step = 0; step < history.count; step++) {
            int thread = history.threadAt(step);
            if (breakpoints.isAnyAt(trial, thread)) {
                steps = history.count - step;
            }
            trial.step(program, thread);
        }
        return steps;
    }

    private boolean returnsInTrial(int thread, int function, int word) {
        Task task = trial.taskAt(thread);
        int size = task.size;
        if (!task.push(0)) {
            return false;
        }
        task.startCall(program.functions.firstOf(function), word);
        for (int made = 0; made < ALONE_STEPS; made++) {
            boolean isReturn = program.kindAt(task.place) == 'r' && task.size == size + 1;
            trial.step(program, thread);
            if (isReturn) {
                return true;
            }
            if (!task.isReady() || task.size <= size) {
                return false;
            }
        }
        return false;
    }

    /** Rows of places, numbered from 0. */
    private static final class Rows {
        private final int[] firsts;
        private final int[] lasts;
        private int count;

        Rows(int limit) {
            firsts = new int[Math.max(limit, 0)];
            lasts = new int[Math.max(limit, 0)];
        }

        boolean isFull() {
            return count >= firsts.length;
        }

        int add(int first, int last) {
            if (isFull()) {
                return NONE;
            }
            firsts[count] = first;
            lasts[count] = last;
            count++;
            return count - 1;
        }

        boolean isRow(int row) {
            return isBelow(row, count);
        }

        int firstOf(int row) {
            return row >= 0 && row < count ? firsts[row] : 0;
        }

        int lastOf(int row) {
            return row >= 0 && row < count ? lasts[row] : 0;
        }

        int lengthOf(int row) {
            return row >= 0 && row < count ? lasts[row] - firsts[row] + 1 : 0;
        }

        boolean covers(int row, int first, int last) {
            return row >= 0 && row < count && firsts[row] <= first && last <= lasts[row];
        }

        private boolean touches(int row, int first, int last) {
            return row >= 0 && row < count && firsts[row] <= last && first <= lasts[row];
        }

        private boolean isWithin(int row, int first, int last) {
            return row >= 0 && row < count && first <= firsts[row] && lasts[row] <= last;
        }

        boolean touchesAny(int first, int last) {
            for (int row = 0; row < count; row++) {
                if (touches(row, first, last)) {
                    return true;
                }
            }
            return false;
        }

        boolean isAnyPartlyIn(int first, int last) {
            for (int row = 0; row < count; row++) {
                if (touches(row, first, last) && !isWithin(row, first, last)) {
                    return true;
                }
            }
            return false;
        }

        boolean hasAnyPart(int first, int last) {
            for (int row = 0; row < count; row++) {
                if (touches(row, first, last) && !covers(row, first, last)) {
                    return true;
                }
            }
            return false;
        }

        boolean crossesAny(int first, int last) {
            for (int row = 0; row < count; row++) {
                if (touches(row, first, last) && !covers(row, first, last) && !isWithin(row, first, last)) {
                    return true;
                }
            }
            return false;
        }

        boolean hasSame(int first, int last) {
            for (int row = 0; row < count; row++) {
                if (covers(row, first, last) && isWithin(row, first, last)) {
                    return true;
                }
            }
            return false;
        }
    }

    /** The code, and what is told of its places. */
    private static final class Program {
        private final Rows functions = new Rows(FUNCTIONS);
        private final Rows calls = new Rows(CALLS);
        private final int[] callFunctions = new int[CALLS];
        private final int[] callLines = new int[CALLS];
        private final char[] kinds = new char[PLACES];
        private final int[] lefts = new int[PLACES];
        private final int[] rights = new int[PLACES];
        private final int[] lines = new int[PLACES];
        private final char[] rules = new char[PLACES];
        private int count;

        static boolean isInstruction(char kind, int a, int b) {
            switch (kind) {
                case 'n':
                case 'x':
                case 'r':
                case 'h':
                    return true;
                case 'k':
                    return isBelow(b, FUNCTIONS);
                case 'e':
                    return isBelow(b, SLOTS + 1);
                default:
                    return isBelow(a, REGISTERS) && isSecond(kind, b);
            }
        }

        /** Whether b is right for a kind that has a register a. */
        private static boolean isSecond(char kind, int b) {
            switch (kind) {
                case 'c':
                    return true;
                case 'm':
                case '+':
                case '-':
                case '*':
                    return isBelow(b, REGISTERS);
                case 'l':
                case 's':
                    return isBelow(b, SLOTS);
                case 'g':
                case 'p':
                    return isBelow(b, CELLS);
                case 'j':
                    return isBelow(b, PLACES);
                default:
                    return false;
            }
        }

        boolean isFull() {
            return count >= PLACES;
        }

        boolean hasPlace(int place) {
            return isBelow(place, count);
        }

        int append(char kind, int a, int b) {
            if (isFull()) {
                return NONE;
            }
            lines[count] = NONE;
            rules[count] = NO;
            count++;
            put(count - 1, kind, a, b);
            return count - 1;
        }

        void put(int place, char kind, int a, int b) {
            if (hasPlace(place)) {
                kinds[place] = kind;
                lefts[place] = a;
                rights[place] = b;
            }
        }

        char kindAt(int place) {
            return isBelow(place, count) ? kinds[place] : NO;
        }

        int leftAt(int place) {
            return isBelow(place, count) ? lefts[place] : 0;
        }

        int rightAt(int place) {
            return isBelow(place, count) ? rights[place] : 0;
        }

        int lineAt(int place) {
            return isBelow(place, count) ? lines[place] : NONE;
        }

        void putLine(int place, int line) {
            if (hasPlace(place)) {
                lines[place] = line;
            }
        }

        boolean beginsLine(int place) {
            int line = lineAt(place);
            return line != NONE && (lineAt(place - 1) != line || isEntry(place));
        }

        private boolean isEntry(int place) {
            int function = functionAt(place);
            return function != NONE && functions.firstOf(function) == place;
        }

        long placesBeginning(int line) {
            long places = 0;
            for (int place = 0; place < count; place++) {
                if (lineAt(place) == line && beginsLine(place)) {
                    places |= 1L << place;
                }
            }
            return places;
        }

        int functionAt(int place) {
            for (int function = 0; function < functions.count; function++) {
                if (functions.covers(function, place, place)) {
                    return function;
                }
            }
            return NONE;
        }

        void putRule(int place, char rule) {
            if (hasPlace(place)) {
                rules[place] = rule;
            }
        }

        char ruleAt(int place) {
            int function = functionAt(place);
            int first = function == NONE ? place : functions.firstOf(function);
            for (int ahead = place; ahead >= first && hasPlace(ahead); ahead--) {
                if (rules[ahead] != NO) {
                    return rules[ahead];
                }
            }
            return 'o';
        }

        /** Where a breakpoint in the function stands: where its frame is made, if that is known. */
        int entryOf(int function) {
            int last = functions.lastOf(function);
            for (int place = functions.firstOf(function); place <= last; place++) {
                if (ruleAt(place) == 'i') {
                    return place;
                }
            }
            return functions.firstOf(function);
        }

        int addCall(int first, int last, int function, int line) {
            int call = calls.add(first, last);
            if (isBelow(call, CALLS)) {
                callFunctions[call] = function;
                callLines[call] = line;
            }
            return call;
        }

        int callFunctionOf(int call) {
            return isBelow(call, CALLS) ? callFunctions[call] : NONE;
        }

        int callLineOf(int call) {
            return isBelow(call, CALLS) ? callLines[call] : NONE;
        }

        /** The innermost inlined call that has the places and is around another one, if one is told. */
        int callAround(int first, int last, int inner) {
            int around = NONE;
            for (int call = 0; call < calls.count; call++) {
                if (calls.covers(call, first, last) && calls.lengthOf(call) > calls.lengthOf(inner)
                        && (around == NONE || calls.lengthOf(call) < calls.lengthOf(around))) {
                    around = call;
                }
            }
            return around;
        }

        /** A bit for each inlined call that has the place. */
        long callsAt(int place) {
            long bits = 0;
            for (int call = 0; call < calls.count; call++) {
                if (calls.covers(call, place, place)) {
                    bits |= 1L << call;
                }
            }
            return bits;
        }
    }

    /** A thread of the target. */
    private static final class Task {
        private final int[] registers = new int[REGISTERS];
        private final int[] stack = new int[WORDS];
        private int size;
        private int base;
        private int place;
        private char state = 'r';
        private char fault = NO;

        void copyFrom(Task other) {
            System.arraycopy(other.registers, 0, registers, 0, REGISTERS);
            System.arraycopy(other.stack, 0, stack, 0, WORDS);
            size = other.size;
            base = other.base;
            place = other.place;
            state = other.state;
            fault = other.fault;
        }

        boolean isReady() {
            return state == 'r';
        }

        int registerAt(int register) {
            return isBelow(register, REGISTERS) ? registers[register] : 0;
        }

        void putRegister(int register, int word) {
            if (isBelow(register, REGISTERS)) {
                registers[register] = word;
            }
        }

        boolean hasWord(int index) {
            return isBelow(index, size);
        }

        int wordAt(int index) {
            return isBelow(index, size) ? stack[index] : 0;
        }

        void putWord(int index, int word) {
            if (isBelow(index, size)) {
                stack[index] = word;
            }
        }

        boolean push(int word) {
            if (size >= WORDS) {
                return false;
            }
            stack[size] = word;
            size++;
            return true;
        }

        int pop() {
            if (size <= 0) {
                return 0;
            }
            size--;
            return stack[size];
        }

        void startCall(int first, int word) {
            for (int register = 0; register < REGISTERS; register++) {
                putRegister(register, 0);
            }
            putRegister(0, word);
            place = first;
        }

        void stopBy(char letter) {
            state = 'f';
            fault = letter;
        }

        char faultAhead(Program program) {
            if (!program.hasPlace(place)) {
                return 'p';
            }
            int b = program.rightAt(place);
            switch (program.kindAt(place)) {
                case 'k':
                    if (size >= WORDS) {
                        return 'o';
                    }
                    return program.functions.isRow(b) ? NO : 'f';
                case 'e':
                    return size + 1 + b > WORDS ? 'o' : NO;
                case 'l':
                case 's':
                    return hasWord(base + b) ? NO : 'u';
                case 'x':
                    return base > size || base < 1 ? 'u' : NO;
                default:
                    return NO;
            }
        }

        /** What the instruction does to the stack and to the place that is next. */
        void follow(char kind, int a, int b, Program program) {
            int behind = place + 1;
            switch (kind) {
                case 'j':
                    place = registerAt(a) != 0 ? b : behind;
                    break;
                case 'k':
                    push(behind);
                    place = program.functions.firstOf(b);
                    break;
                case 'e':
                    enter(b);
                    place = behind;
                    break;
                case 'x':
                    size = base;
                    base = pop();
                    place = behind;
                    break;
                case 'r':
                    if (size == 0) {
                        state = 'd';
                    } else {
                        place = pop();
                    }
                    break;
                case 'h':
                    state = 'd';
                    break;
                default:
                    place = behind;
                    break;
            }
        }

        private void enter(int words) {
            push(base);
            base = size;
            for (int word = 0; word < words; word++) {
                push(0);
            }
        }

        /** What the instruction does to registers, slots and cells. */
        void move(char kind, int a, int b, int[] cells) {
            switch (kind) {
                case 'c':
                    putRegister(a, b);
                    break;
                case 'm':
                    putRegister(a, registerAt(b));
                    break;
                case '+':
                    putRegister(a, registerAt(a) + registerAt(b));
                    break;
                case '-':
                    putRegister(a, registerAt(a) - registerAt(b));
                    break;
                case '*':
                    putRegister(a, registerAt(a) * registerAt(b));
                    break;
                case 'l':
                    putRegister(a, wordAt(base + b));
                    break;
                case 's':
                    putWord(base + b, registerAt(a));
                    break;
                case 'g':
                    putRegister(a, isBelow(b, cells.length) ? cells[b] : 0);
                    break;
                case 'p':
                    if (isBelow(b, cells.length)) {
                        cells[b] = registerAt(a);
                    }
                    break;
                default:
                    break;
            }
        }
    }

    /** What steps change: cells, threads, whose turn it is, and the time. */
    private static final class Target {
        private final int[] cells = new int[CELLS];
        private final Task[] tasks = new Task[THREADS];
        private int count;
        private int last = NONE;
        private int time;

        Target() {
            for (int thread = 0; thread < THREADS; thread++) {
                tasks[thread] = new Task();
            }
        }

        void copyFrom(Target other) {
            System.arraycopy(other.cells, 0, cells, 0, CELLS);
            for (int thread = 0; thread < THREADS; thread++) {
                tasks[thread].copyFrom(other.tasks[thread]);
            }
            count = other.count;
            last = other.last;
            time = other.time;
        }

        boolean isFull() {
            return count >= THREADS;
        }

        int addTask(int place) {
            taskAt(count).place = place;
            count++;
            return count - 1;
        }

        Task taskAt(int thread) {
            return tasks[isBelow(thread, THREADS) ? thread : 0];
        }

        int cellAt(int cell) {
            return isBelow(cell, CELLS) ? cells[cell] : 0;
        }

        void putCell(int cell, int word) {
            if (isBelow(cell, CELLS)) {
                cells[cell] = word;
            }
        }

        void step(Program program, int thread) {
            Task task = taskAt(thread);
            char letter = task.faultAhead(program);
            if (letter == NO) {
                char kind = program.kindAt(task.place);
                int a = program.leftAt(task.place);
                int b = program.rightAt(task.place);
                task.move(kind, a, b, cells);
                task.follow(kind, a, b, program);
            } else {
                task.stopBy(letter);
            }
            last = thread;
            time++;
        }

        int doneCount() {
            int done = 0;
            for (int thread = 0; thread < count; thread++) {
                if (taskAt(thread).state == 'd') {
                    done++;
                }
            }
            return done;
        }

        int stackWords() {
            int words = 0;
            for (int thread = 0; thread < count; thread++) {
                words += taskAt(thread).size;
            }
            return words;
        }

        long sum() {
            long sum = 7;
            for (int cell = 0; cell < CELLS; cell++) {
                sum = 31 * sum + cells[cell];
            }
            for (int thread = 0; thread < count; thread++) {
                sum = sumWith(sum, taskAt(thread));
            }
            return sum;
        }

        private static long sumWith(long before, Task task) {
            long sum = 31 * before + task.place;
            sum = 31 * sum + task.base;
            sum = 31 * sum + task.size;
            for (int register = 0; register < REGISTERS; register++) {
                sum = 31 * sum + task.registerAt(register);
            }
            for (int index = 0; index < task.size; index++) {
                sum = 31 * sum + task.wordAt(index);
            }
            return 31 * sum + task.state;
        }
    }

    /** One shown frame of a thread. */
    private static final class View {
        private int thread;
        private int place;
        private int base;
        private int size;
        private int line;
        /** The inlined call that the frame shows, if it is not one of the thread's own. */
        private int call = NONE;
        /** Registers are those of the first frame alone. */
        private boolean hasRegisters;

        /** The first shown frame of a thread. */
        void beTop(Program program, Target target, int number) {
            Task task = target.taskAt(number);
            thread = number;
            place = task.place;
            base = task.base;
            size = task.size;
            line = program.lineAt(place);
            call = program.callAround(place, place, NONE);
            hasRegisters = true;
        }
    }

    /** The frames of one thread, those that are inlined not among them. */
    private static final class Unwinding {
        private final Program program;
        private final int[] places = new int[FRAMES];
        private final int[] bases = new int[FRAMES];
        private final int[] sizes = new int[FRAMES];
        private int count;

        Unwinding(Program program) {
            this.program = program;
        }

        void unwind(Task task) {
            places[0] = task.place;
            bases[0] = task.base;
            sizes[0] = task.size;
            count = 1;
            for (int frame = 1; frame < FRAMES && count == frame; frame++) {
                addBehind(frame - 1, task);
            }
        }

        private void addBehind(int frame, Task task) {
            if (!isBelow(frame, FRAMES - 1) || sizes[frame] == 0) {
                return;
            }
            boolean isInner = program.ruleAt(places[frame]) == 'i';
            int base = bases[frame];
            int at = isInner ? base - 2 : sizes[frame] - 1;
            if (!task.hasWord(at) || isInner && !task.hasWord(base - 1)) {
                return;
            }
            int place = task.wordAt(at) - 1;
            if (!program.hasPlace(place)) {
                return;
            }
            places[frame + 1] = place;
            bases[frame + 1] = isInner ? task.wordAt(base - 1) : base;
            sizes[frame + 1] = at;
            count++;
        }

        int sizeBehindFirst() {
            return count > 1 ? sizes[1] : NONE;
        }

        boolean isAllCode() {
            for (int frame = 0; frame < count && frame < FRAMES; frame++) {
                if (!program.hasPlace(places[frame])) {
                    return false;
                }
            }
            return true;
        }

        int shownCount() {
            int shown = 0;
            for (int frame = 0; frame < count && frame < FRAMES; frame++) {
                shown += shownFor(frame);
            }
            return shown;
        }

        private int shownFor(int frame) {
            return isBelow(frame, FRAMES) ? Long.bitCount(program.callsAt(places[frame])) + 1 : 0;
        }

        boolean choose(int shown, View view) {
            int level = shown;
            for (int frame = 0; frame < count && level >= 0; frame++) {
                if (level < shownFor(frame)) {
                    fill(view, frame, level);
                    return true;
                }
                level -= shownFor(frame);
            }
            return false;
        }

        private void fill(View view, int frame, int level) {
            if (!isBelow(frame, FRAMES)) {
                return;
            }
            int place = places[frame];
            view.place = place;
            view.base = bases[frame];
            view.size = sizes[frame];
            view.hasRegisters = frame == 0;
            view.line = program.lineAt(place);
            view.call = program.callAround(place, place, NONE);
            for (int inner = 0; inner < level; inner++) {
                view.line = program.callLineOf(view.call);
                view.call = program.callAround(place, place, view.call);
            }
        }
    }

    /** Where words are: a register, slots, cells, or nowhere as they are a number itself. */
    private static final class Spot {
        private char kind = NO;
        private int thread;
        private int number;

        void become(char newKind, int newThread, int newNumber) {
            kind = newKind;
            thread = newThread;
            number = newNumber;
        }

        void copyFrom(Spot other) {
            become(other.kind, other.thread, other.number);
        }

        boolean isGone() {
            return kind == NO;
        }

        boolean isMemory() {
            return kind == 's' || kind == 'g';
        }

        /** Whether it is a word of a stack that is not as large any more. */
        boolean isLost(Target target) {
            return kind == 's' && !target.taskAt(thread).hasWord(number);
        }

        int wordOf(Target target, int index) {
            switch (kind) {
                case 'r':
                    return target.taskAt(thread).registerAt(number);
                case 's':
                    return target.taskAt(thread).wordAt(number + index);
                case 'g':
                    return target.cellAt(number + index);
                default:
                    return number;
            }
        }

        void putWord(Target target, int index, int word) {
            switch (kind) {
                case 'r':
                    target.taskAt(thread).putRegister(number, word);
                    break;
                case 's':
                    target.taskAt(thread).putWord(number + index, word);
                    break;
                case 'g':
                    target.putCell(number + index, word);
                    break;
                default:
                    break;
            }
        }
    }

    /** Scopes, the variables in them, and where those are. */
    private static final class Names {
        private final Program program;
        private final Rows scopes = new Rows(SCOPES);
        private final Rows homes = new Rows(HOMES);
        private final int[] homeVariables = new int[HOMES];
        private final char[] homeKinds = new char[HOMES];
        private final int[] homeNumbers = new int[HOMES];
        private final int[] variableScopes = new int[VARIABLES];
        private final char[] letters = new char[VARIABLES];
        private final char[] kinds = new char[VARIABLES];
        private final int[] words = new int[VARIABLES];
        private int count;

        Names(Program program) {
            this.program = program;
        }

        static boolean isHome(char kind, int number) {
            switch (kind) {
                case 'r':
                    return isBelow(number, REGISTERS);
                case 's':
                    return isBelow(number, SLOTS);
                case 'g':
                    return isBelow(number, CELLS);
                default:
                    return kind == '#';
            }
        }

        boolean isFull() {
            return count >= VARIABLES;
        }

        boolean isVariable(int variable) {
            return isBelow(variable, count);
        }

        int addVariable(int scope, char letter, char kind, int size) {
            if (isFull()) {
                return NONE;
            }
            variableScopes[count] = scope;
            letters[count] = letter;
            kinds[count] = kind;
            words[count] = size;
            count++;
            return count - 1;
        }

        /** Answers how many homes are told then. */
        int addHome(int variable, int first, int last, char kind, int number) {
            int home = homes.add(first, last);
            if (isBelow(home, HOMES)) {
                homeVariables[home] = variable;
                homeKinds[home] = kind;
                homeNumbers[home] = number;
            }
            return homes.count;
        }

        int wordsOf(int variable) {
            return isBelow(variable, count) ? words[variable] : 0;
        }

        char kindOf(int variable) {
            return isBelow(variable, count) ? kinds[variable] : NO;
        }

        int meaningOf(View view, char letter) {
            int meaning = NONE;
            int innermost = NONE;
            for (int scope = 0; scope < scopes.count; scope++) {
                int owner = program.callAround(scopes.firstOf(scope), scopes.lastOf(scope), NONE);
                boolean isSeen = owner == view.call && scopes.covers(scope, view.place, view.place);
                int variable = isSeen ? latestIn(scope, letter) : NONE;
                // Of two scopes that are the same, the later one is inside.
                if (variable != NONE && (innermost == NONE || scopes.lengthOf(scope) <= scopes.lengthOf(innermost))) {
                    meaning = variable;
                    innermost = scope;
                }
            }
            return meaning;
        }

        private int latestIn(int scope, char letter) {
            int latest = NONE;
            for (int variable = 0; variable < count; variable++) {
                if (variableScopes[variable] == scope && letters[variable] == letter) {
                    latest = variable;
                }
            }
            return latest;
        }

        void locate(int variable, View view, Spot spot) {
            int home = homeOf(variable, view.place);
            if (!isBelow(home, HOMES) || !isThere(home, wordsOf(variable), view)) {
                spot.become(NO, view.thread, 0);
            } else if (homeKinds[home] == 's') {
                spot.become('s', view.thread, view.base + homeNumbers[home]);
            } else {
                spot.become(homeKinds[home], view.thread, homeNumbers[home]);
            }
        }

        private int homeOf(int variable, int place) {
            int latest = NONE;
            for (int home = 0; home < homes.count && home < HOMES; home++) {
                if (homeVariables[home] == variable && homes.covers(home, place, place)) {
                    latest = home;
                }
            }
            return latest;
        }

        private boolean isThere(int home, int size, View view) {
            if (!isBelow(home, HOMES)) {
                return false;
            }
            int number = homeNumbers[home];
            switch (homeKinds[home]) {
                case 'r':
                    return view.hasRegisters && size == 1;
                case 's':
                    return view.base + number >= 0 && view.base + number <= view.size - size;
                case 'g':
                    return number + size <= CELLS;
                default:
                    return size == 1;
            }
        }
    }

    /** Breakpoints, and for which threads runs stopped by them. */
    private static final class Breakpoints {
        private final Program program;
        private final Names names;
        private final View top = new View();
        private final Spot spot = new Spot();
        private final long[] places = new long[BREAKPOINTS];
        private final char[] letters = new char[BREAKPOINTS];
        private final char[] hows = new char[BREAKPOINTS];
        private final int[] numbers = new int[BREAKPOINTS];
        private final boolean[] isOn = new boolean[BREAKPOINTS];
        private final int[] passing = new int[BREAKPOINTS];
        private final int[] counted = new int[BREAKPOINTS];
        /** For each thread a bit for each breakpoint by which a run stopped since the thread went last. */
        private final int[] stops = new int[THREADS];
        private int count;

        Breakpoints(Program program, Names names) {
            this.program = program;
            this.names = names;
        }

        boolean isFull() {
            return count >= BREAKPOINTS;
        }

        boolean isBreakpoint(int breakpoint) {
            return isBelow(breakpoint, count);
        }

        int add(long bits) {
            if (isFull()) {
                return NONE;
            }
            places[count] = bits;
            letters[count] = NO;
            isOn[count] = true;
            count++;
            return count - 1;
        }

        void putCondition(int breakpoint, char letter, char how, int number) {
            if (isBreakpoint(breakpoint)) {
                letters[breakpoint] = letter;
                hows[breakpoint] = how;
                numbers[breakpoint] = number;
            }
        }

        void putPassing(int breakpoint, int hits) {
            if (isBreakpoint(breakpoint)) {
                isOn[breakpoint] = hits >= 0;
                passing[breakpoint] = Math.max(hits, 0);
            }
        }

        int hitsOf(int breakpoint) {
            return isBreakpoint(breakpoint) ? counted[breakpoint] : 0;
        }

        /** The one breakpoint that a thread hits which is about to go: others at the place have no hit then. */
        int lowestHit(Target target, int thread) {
            for (int breakpoint = 0; breakpoint < count; breakpoint++) {
                if (!hasStopped(breakpoint, thread) && isAt(breakpoint, target, thread)) {
                    return breakpoint;
                }
            }
            return NONE;
        }

        /** Counts a hit, and answers whether it stops the run. */
        boolean stopsBy(int breakpoint, int thread) {
            if (!isBreakpoint(breakpoint) || !isBelow(thread, THREADS)) {
                return false;
            }
            counted[breakpoint]++;
            if (passing[breakpoint] > 0) {
                passing[breakpoint]--;
                return false;
            }
            stops[thread] |= 1 << breakpoint;
            return true;
        }

        private boolean hasStopped(int breakpoint, int thread) {
            return isBelow(thread, THREADS) && (stops[thread] >> breakpoint & 1) != 0;
        }

        boolean isAnyAt(Target target, int thread) {
            for (int breakpoint = 0; breakpoint < count; breakpoint++) {
                if (isAt(breakpoint, target, thread)) {
                    return true;
                }
            }
            return false;
        }

        private boolean isAt(int breakpoint, Target target, int thread) {
            int place = target.taskAt(thread).place;
            return isBreakpoint(breakpoint) && isOn[breakpoint] && isBelow(place, PLACES)
                    && (places[breakpoint] >> place & 1) != 0 && holds(breakpoint, target, thread);
        }

        private boolean holds(int breakpoint, Target target, int thread) {
            if (!isBreakpoint(breakpoint) || letters[breakpoint] == NO) {
                return true;
            }
            top.beTop(program, target, thread);
            names.locate(names.meaningOf(top, letters[breakpoint]), top, spot);
            if (spot.isGone()) {
                return false;
            }
            int word = spot.wordOf(target, 0);
            switch (hows[breakpoint]) {
                case '<':
                    return word < numbers[breakpoint];
                case '>':
                    return word > numbers[breakpoint];
                default:
                    return word == numbers[breakpoint];
            }
        }

        void forgetStops(int thread) {
            if (isBelow(thread, THREADS)) {
                stops[thread] = 0;
            }
        }

        void forgetAllStops() {
            for (int thread = 0; thread < THREADS; thread++) {
                stops[thread] = 0;
            }
        }
    }

    /** Words that are watched; one that ended keeps its number. */
    private static final class Watches {
        private final Spot[] spots = new Spot[WATCHES];
        private final int[] words = new int[WATCHES];
        private final boolean[] isEnded = new boolean[WATCHES];
        private int count;

        Watches() {
            for (int watch = 0; watch < WATCHES; watch++) {
                spots[watch] = new Spot();
            }
        }

        boolean isFull() {
            return count >= WATCHES;
        }

        int add(Spot spot, Target target) {
            if (isFull()) {
                return NONE;
            }
            spots[count].copyFrom(spot);
            words[count] = spot.wordOf(target, 0);
            count++;
            return count - 1;
        }

        boolean hasEnded(int watch) {
            return isBelow(watch, count) && isEnded[watch];
        }

        /** The first watch that ended now or whose word is another one; all words are looked at anew. */
        int firstChanged(Target target) {
            int first = NONE;
            for (int watch = 0; watch < count; watch++) {
                if (isChanged(watch, target) && first == NONE) {
                    first = watch;
                }
            }
            return first;
        }

        private boolean isChanged(int watch, Target target) {
            if (!isBelow(watch, count) || isEnded[watch]) {
                return false;
            }
            if (spots[watch].isLost(target)) {
                isEnded[watch] = true;
                return true;
            }
            int before = words[watch];
            words[watch] = spots[watch].wordOf(target, 0);
            return words[watch] != before;
        }

        void lookAnew(Target target) {
            firstChanged(target);
        }
    }

    /** The steps that are kept: the target ahead of the first one, and which thread made each. */
    private static final class History {
        private final Program program;
        private final Target start = new Target();
        private final int[] threads = new int[KEPT];
        private int count;

        History(Program program) {
            this.program = program;
        }

        void begin(Target target) {
            start.copyFrom(target);
            count = 0;
        }

        /** Keeps a step that a thread is about to make. */
        void keep(Target target, int thread) {
            if (count >= KEPT) {
                begin(target);
            }
            threads[count] = thread;
            count++;
        }

        int threadAt(int step) {
            return isBelow(step, count) ? threads[step] : NONE;
        }

        /** Makes a target what it was behind so many of the steps. */
        void replay(Target target, int steps) {
            target.copyFrom(start);
            for (int step = 0; step < steps; step++) {
                target.step(program, threadAt(step));
            }
        }
    }
}
