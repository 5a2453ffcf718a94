import java.util.ArrayList;
import java.util.Comparator;
import java.util.List;
import java.util.NoSuchElementException;

/**
 * The document once more, written for plainness alone: whole copies of the target are kept for each step,
 * and all that is asked is worked out anew. The class is held against it by RandomRunsTest.
 */
public final class Model {
    record Instruction(char kind, int a, int b) {
    }

    record Row(int first, int last) {
        boolean has(int place) {
            return first <= place && place <= last;
        }

        boolean within(Row other) {
            return other.first <= first && last <= other.last;
        }

        boolean apart(Row other) {
            return last < other.first || other.last < first;
        }

        boolean crosses(Row other) {
            return !apart(other) && !within(other) && !other.within(this);
        }
    }

    record Inlined(Row row, int function, int line) {
    }

    record Variable(int scope, char letter, char kind, int words) {
    }

    record Home(int variable, Row row, char kind, int number) {
    }

    record Frame(int place, int base, int size, boolean first, Inlined inlined, int line) {
    }

    record Found(int variable, char kind, int number) {
    }

    static final class Thread implements Cloneable {
        int[] registers = new int[4];
        List<Integer> stack = new ArrayList<>();
        int base;
        int place;
        char state = 'r';
        char fault = '-';

        Thread copy() {
            Thread copy = new Thread();
            copy.registers = registers.clone();
            copy.stack = new ArrayList<>(stack);
            copy.base = base;
            copy.place = place;
            copy.state = state;
            copy.fault = fault;
            return copy;
        }
    }

    static final class State {
        int[] cells = new int[16];
        List<Thread> threads = new ArrayList<>();
        int last = -1;
        int time;

        State copy() {
            State copy = new State();
            copy.cells = cells.clone();
            for (Thread thread : threads) {
                copy.threads.add(thread.copy());
            }
            copy.last = last;
            copy.time = time;
            return copy;
        }
    }

    record Kept(State before, int thread) {
    }

    static final class Breakpoint {
        List<Integer> places = new ArrayList<>();
        char letter = '-';
        char how;
        int number;
        boolean on = true;
        int passing;
        int hits;
        boolean[] stopped = new boolean[3];
    }

    static final class Watch {
        int cell = -1;
        int thread = -1;
        int index = -1;
        int word;
        boolean ended;
    }

    private final List<Instruction> code = new ArrayList<>();
    private final List<Integer> lines = new ArrayList<>();
    private final List<Character> rules = new ArrayList<>();
    private final List<Row> functions = new ArrayList<>();
    private final List<Inlined> inlined = new ArrayList<>();
    private final List<Row> scopes = new ArrayList<>();
    private final List<Variable> variables = new ArrayList<>();
    private final List<Home> homes = new ArrayList<>();
    private final List<Kept> kept = new ArrayList<>();
    private final List<Breakpoint> breakpoints = new ArrayList<>();
    private final List<Watch> watches = new ArrayList<>();
    private final boolean[] held = new boolean[3];
    private State state = new State();
    private String shown = "";
    private char reason = '-';
    private int which = -1;

    private static void index(boolean right) {
        if (!right) {
            throw new IndexOutOfBoundsException();
        }
    }

    private static void argument(boolean right) {
        if (!right) {
            throw new IllegalArgumentException();
        }
    }

    private static void element(boolean right) {
        if (!right) {
            throw new NoSuchElementException();
        }
    }

    private static void supported(boolean right) {
        if (!right) {
            throw new UnsupportedOperationException();
        }
    }

    private static void room(boolean right) {
        if (!right) {
            throw new IllegalStateException();
        }
    }

    private static boolean in(int number, int low, int high) {
        return low <= number && number <= high;
    }

    private boolean isPlace(int place) {
        return in(place, 0, code.size() - 1);
    }

    private static boolean isInstruction(char kind, int a, int b) {
        if ("nckm+-*lgspjexrh".indexOf(kind) < 0) {
            return false;
        }
        if ("cm+-*lgspj".indexOf(kind) >= 0 && !in(a, 0, 3)) {
            return false;
        }
        if ("m+-*ls".indexOf(kind) >= 0) {
            return in(b, 0, 3);
        }
        return switch (kind) {
            case 'g', 'p' -> in(b, 0, 15);
            case 'j' -> in(b, 0, 59);
            case 'k' -> in(b, 0, 5);
            case 'e' -> in(b, 0, 4);
            default -> true;
        };
    }

    public int code(char kind, int a, int b) {
        argument(isInstruction(kind, a, b));
        room(code.size() < 60);
        code.add(new Instruction(kind, a, b));
        lines.add(-1);
        rules.add('-');
        kept.clear();
        return code.size() - 1;
    }

    public char patch(int place, char kind, int a, int b) {
        index(isPlace(place));
        argument(isInstruction(kind, a, b));
        char before = code.set(place, new Instruction(kind, a, b)).kind;
        byHand();
        return before;
    }

    public int function(int first, int last) {
        index(isPlace(first) && isPlace(last));
        argument(first <= last);
        Row row = new Row(first, last);
        supported(functions.stream().allMatch(row::apart));
        supported(inlined.stream().allMatch(i -> i.row.apart(row) || i.row.within(row)));
        room(functions.size() < 6);
        functions.add(row);
        kept.clear();
        return functions.size() - 1;
    }

    public int line(int place, int line) {
        index(isPlace(place));
        argument(in(line, -1, 99));
        return lines.set(place, line);
    }

    private int functionOf(int place) {
        for (int i = 0; i < functions.size(); i++) {
            if (functions.get(i).has(place)) {
                return i;
            }
        }
        return -1;
    }

    private char ruleOf(int place) {
        if (!isPlace(place)) {
            return 'o';
        }
        if (rules.get(place) != '-') {
            return rules.get(place);
        }
        int function = functionOf(place);
        if (function < 0) {
            return 'o';
        }
        for (int p = place - 1; p >= functions.get(function).first; p--) {
            if (rules.get(p) != '-') {
                return rules.get(p);
            }
        }
        return 'o';
    }

    public char rule(int place, char rule) {
        index(isPlace(place));
        argument("io-".indexOf(rule) >= 0);
        char before = ruleOf(place);
        rules.set(place, rule);
        return before;
    }

    public int inlined(int first, int last, int function, int line) {
        index(isPlace(first) && isPlace(last) && in(function, 0, functions.size() - 1));
        argument(first <= last && in(line, 0, 99));
        Row row = new Row(first, last);
        supported(functions.stream().allMatch(f -> f.apart(row) || row.within(f)));
        supported(inlined.stream().noneMatch(i -> i.row.crosses(row) || i.row.equals(row)));
        supported(scopes.stream().noneMatch(row::crosses));
        room(inlined.size() < 6);
        inlined.add(new Inlined(row, function, line));
        return inlined.size() - 1;
    }

    public int scope(int first, int last) {
        index(isPlace(first) && isPlace(last));
        argument(first <= last);
        Row row = new Row(first, last);
        supported(scopes.stream().noneMatch(row::crosses));
        supported(inlined.stream().noneMatch(i -> i.row.crosses(row)));
        room(scopes.size() < 12);
        scopes.add(row);
        return scopes.size() - 1;
    }

    public int variable(int scope, char letter, char kind, int words) {
        index(in(scope, 0, scopes.size() - 1));
        argument(in(letter, 'a', 'z') && "ibc".indexOf(kind) >= 0 && in(words, 1, 4));
        room(variables.size() < 20);
        variables.add(new Variable(scope, letter, kind, words));
        return variables.size() - 1;
    }

    public int where(int variable, int first, int last, char kind, int number) {
        index(in(variable, 0, variables.size() - 1) && isPlace(first) && isPlace(last));
        argument(first <= last && "rsg#".indexOf(kind) >= 0);
        argument(kind == '#' || in(number, 0, kind == 'g' ? 15 : 3));
        room(homes.size() < 24);
        homes.add(new Home(variable, new Row(first, last), kind, number));
        return homes.size();
    }

    public int thread(int function) {
        index(in(function, 0, functions.size() - 1));
        room(state.threads.size() < 3);
        Thread thread = new Thread();
        thread.place = functions.get(function).first;
        state.threads.add(thread);
        kept.clear();
        return state.threads.size() - 1;
    }

    private Thread need(int thread) {
        index(in(thread, 0, state.threads.size() - 1));
        return state.threads.get(thread);
    }

    public char state(int thread) {
        return need(thread).state;
    }

    public char fault(int thread) {
        char fault = need(thread).fault;
        element(fault != '-');
        return fault;
    }

    public boolean hold(int thread, boolean is) {
        need(thread);
        boolean before = held[thread];
        held[thread] = is;
        return before;
    }

    public int register(int thread, int register) {
        need(thread);
        index(in(register, 0, 3));
        return need(thread).registers[register];
    }

    public int cell(int cell) {
        index(in(cell, 0, 15));
        return state.cells[cell];
    }

    public int time() {
        return state.time;
    }

    private List<Inlined> around(int place) {
        List<Inlined> found = new ArrayList<>();
        for (Inlined i : inlined) {
            if (i.row.has(place)) {
                found.add(i);
            }
        }
        found.sort(Comparator.comparingInt(i -> i.row.last - i.row.first));
        return found;
    }

    /** The frames of a thread, those that are inlined not among them, as place, base and size. */
    private List<int[]> unwound(Thread thread) {
        List<int[]> frames = new ArrayList<>();
        frames.add(new int[] {thread.place, thread.base, thread.stack.size()});
        while (frames.size() < 12) {
            int[] from = frames.get(frames.size() - 1);
            boolean inner = ruleOf(from[0]) == 'i';
            int at = inner ? from[1] - 2 : from[2] - 1;
            int top = thread.stack.size() - 1;
            if (from[2] == 0 || !in(at, 0, top) || inner && !in(from[1] - 1, 0, top)) {
                break;
            }
            int place = thread.stack.get(at) - 1;
            if (!isPlace(place)) {
                break;
            }
            frames.add(new int[] {place, inner ? thread.stack.get(from[1] - 1) : from[1], at});
        }
        return frames;
    }

    private List<Frame> framesOf(Thread thread) {
        List<Frame> shownFrames = new ArrayList<>();
        boolean first = true;
        for (int[] frame : unwound(thread)) {
            int line = isPlace(frame[0]) ? lines.get(frame[0]) : -1;
            for (Inlined call : around(frame[0])) {
                shownFrames.add(new Frame(frame[0], frame[1], frame[2], first, call, line));
                line = call.line;
            }
            shownFrames.add(new Frame(frame[0], frame[1], frame[2], first, null, line));
            first = false;
        }
        return shownFrames;
    }

    public int frames(int thread) {
        return framesOf(need(thread)).size();
    }

    private Frame needFrame(int thread, int frame) {
        List<Frame> all = framesOf(need(thread));
        index(in(frame, 0, all.size() - 1));
        return all.get(frame);
    }

    public int frame(int thread, int frame, char what) {
        Frame it = needFrame(thread, frame);
        argument("fplib".indexOf(what) >= 0);
        return switch (what) {
            case 'f' -> it.inlined != null ? it.inlined.function : functionOf(it.place);
            case 'p' -> it.place;
            case 'l' -> it.line;
            case 'i' -> it.inlined != null ? 1 : 0;
            default -> it.base;
        };
    }

    private int meaning(Frame frame, char letter) {
        int best = -1;
        for (int v = 0; v < variables.size(); v++) {
            int s = variables.get(v).scope;
            Row row = scopes.get(s);
            Inlined owner = null;
            for (Inlined i : inlined) {
                if (row.within(i.row) && (owner == null || i.row.within(owner.row))) {
                    owner = i;
                }
            }
            if (variables.get(v).letter != letter || !row.has(frame.place) || owner != frame.inlined) {
                continue;
            }
            if (best < 0) {
                best = v;
                continue;
            }
            int other = variables.get(best).scope;
            boolean same = row.equals(scopes.get(other));
            if (same ? s >= other : row.within(scopes.get(other))) {
                best = v;
            }
        }
        return best;
    }

    private Found find(Frame frame, int variable) {
        Home home = null;
        for (Home h : homes) {
            if (h.variable == variable && h.row.has(frame.place)) {
                home = h;
            }
        }
        int words = variables.get(variable).words;
        if (home == null) {
            return null;
        }
        long first = home.kind == 's' ? (long) frame.base + home.number : home.number;
        boolean there = switch (home.kind) {
            case 'r' -> frame.first && words == 1;
            case 's' -> first >= 0 && first + words <= frame.size;
            case 'g' -> first + words <= 16;
            default -> words == 1;
        };
        return there ? new Found(variable, home.kind, (int) first) : null;
    }

    private static int word(State state, int thread, Found found, int index) {
        return switch (found.kind) {
            case 'r' -> state.threads.get(thread).registers[found.number];
            case 's' -> state.threads.get(thread).stack.get(found.number + index);
            case 'g' -> state.cells[found.number + index];
            default -> found.number;
        };
    }

    public char see(int thread, int frame, char letter) {
        Frame it = needFrame(thread, frame);
        argument(in(letter, 'a', 'z'));
        int variable = meaning(it, letter);
        return variable < 0 ? 'n' : find(it, variable) == null ? 'g' : 'v';
    }

    private Found needWord(int thread, int frame, char letter, int index) {
        Frame it = needFrame(thread, frame);
        int variable = meaning(it, letter);
        index(variable < 0 || in(index, 0, variables.get(variable).words - 1));
        argument(in(letter, 'a', 'z'));
        element(variable >= 0);
        Found found = find(it, variable);
        element(found != null);
        return found;
    }

    public int value(int thread, int frame, char letter, int index) {
        return word(state, thread, needWord(thread, frame, letter, index), index);
    }

    public int show(int thread, int frame, char letter) {
        Frame it = needFrame(thread, frame);
        argument(in(letter, 'a', 'z'));
        int variable = meaning(it, letter);
        element(variable >= 0);
        Found found = find(it, variable);
        if (found == null) {
            shown = "gone";
            return 4;
        }
        List<String> parts = new ArrayList<>();
        for (int i = 0; i < variables.get(variable).words; i++) {
            int word = word(state, thread, found, i);
            char kind = variables.get(variable).kind;
            parts.add(kind == 'b' ? word != 0 ? "true" : "false"
                    : kind == 'c' && in(word, 32, 126) ? "'" + (char) word + "'" : String.valueOf(word));
        }
        shown = parts.size() == 1 ? parts.get(0) : "{" + String.join(", ", parts) + "}";
        return shown.length();
    }

    public char shown(int index) {
        index(in(index, 0, shown.length() - 1));
        return shown.charAt(index);
    }

    private boolean begins(int place) {
        if (!isPlace(place) || lines.get(place) < 0) {
            return false;
        }
        boolean entry = functions.stream().anyMatch(f -> f.first == place);
        return place == 0 || entry || !lines.get(place - 1).equals(lines.get(place));
    }

    private int addBreakpoint(List<Integer> places) {
        room(breakpoints.size() < 8);
        Breakpoint breakpoint = new Breakpoint();
        breakpoint.places = places;
        breakpoints.add(breakpoint);
        return breakpoints.size() - 1;
    }

    public int stop(int place) {
        index(isPlace(place));
        return addBreakpoint(List.of(place));
    }

    public int stopLine(int line) {
        List<Integer> places = new ArrayList<>();
        for (int p = 0; p < code.size(); p++) {
            if (lines.get(p) == line && begins(p)) {
                places.add(p);
            }
        }
        element(!places.isEmpty());
        return addBreakpoint(places);
    }

    public int stopIn(int function) {
        index(in(function, 0, functions.size() - 1));
        Row row = functions.get(function);
        for (int p = row.first; p <= row.last; p++) {
            if (ruleOf(p) == 'i') {
                return addBreakpoint(List.of(p));
            }
        }
        return addBreakpoint(List.of(row.first));
    }

    private Breakpoint needBreakpoint(int breakpoint) {
        index(in(breakpoint, 0, breakpoints.size() - 1));
        return breakpoints.get(breakpoint);
    }

    public int when(int breakpoint, char letter, char how, int number) {
        Breakpoint it = needBreakpoint(breakpoint);
        argument(letter == '-' || in(letter, 'a', 'z') && "<=>".indexOf(how) >= 0);
        it.letter = letter;
        it.how = how;
        it.number = number;
        return it.hits;
    }

    public int pass(int breakpoint, int hits) {
        Breakpoint it = needBreakpoint(breakpoint);
        argument(in(hits, -1, 99));
        it.on = hits >= 0;
        it.passing = Math.max(0, hits);
        return it.hits;
    }

    public int hits(int breakpoint) {
        return needBreakpoint(breakpoint).hits;
    }

    private int look(Watch watch) {
        return watch.cell >= 0 ? state.cells[watch.cell] : state.threads.get(watch.thread).stack.get(watch.index);
    }

    private int addWatch(Watch watch) {
        room(watches.size() < 4);
        watch.word = look(watch);
        watches.add(watch);
        return watches.size() - 1;
    }

    public int watch(int cell) {
        index(in(cell, 0, 15));
        Watch watch = new Watch();
        watch.cell = cell;
        return addWatch(watch);
    }

    public int watchName(int thread, int frame, char letter) {
        Frame it = needFrame(thread, frame);
        argument(in(letter, 'a', 'z'));
        int variable = meaning(it, letter);
        element(variable >= 0);
        Found found = find(it, variable);
        supported(found != null && "sg".indexOf(found.kind) >= 0);
        Watch watch = new Watch();
        if (found.kind == 'g') {
            watch.cell = found.number;
        } else {
            watch.thread = thread;
            watch.index = found.number;
        }
        return addWatch(watch);
    }

    private boolean isLost(Watch watch) {
        return watch.cell < 0 && state.threads.get(watch.thread).stack.size() <= watch.index;
    }

    private void lookAnew() {
        for (Watch watch : watches) {
            watch.ended |= isLost(watch);
            if (!watch.ended) {
                watch.word = look(watch);
            }
        }
    }

    private void byHand() {
        kept.clear();
        forget();
        lookAnew();
    }

    private void forget() {
        for (Breakpoint breakpoint : breakpoints) {
            breakpoint.stopped = new boolean[3];
        }
    }

    private boolean isAt(Breakpoint it, State at, int thread) {
        Thread t = at.threads.get(thread);
        if (!it.on || !it.places.contains(t.place)) {
            return false;
        }
        if (it.letter == '-') {
            return true;
        }
        Frame top = framesOf(t).get(0);
        int variable = meaning(top, it.letter);
        Found found = variable < 0 ? null : find(top, variable);
        if (found == null) {
            return false;
        }
        int word = word(at, thread, found, 0);
        return it.how == '<' ? word < it.number : it.how == '>' ? word > it.number : word == it.number;
    }

    private boolean hit(int thread) {
        for (int b = 0; b < breakpoints.size(); b++) {
            Breakpoint it = breakpoints.get(b);
            if (it.stopped[thread] || !isAt(it, state, thread)) {
                continue;
            }
            it.hits++;
            if (it.passing > 0) {
                it.passing--;
                return false;
            }
            it.stopped[thread] = true;
            reason = 'b';
            which = b;
            return true;
        }
        return false;
    }

    private void keptStep(int thread) {
        if (kept.size() == 1000) {
            kept.clear();
        }
        kept.add(new Kept(state.copy(), thread));
        step(thread);
        for (Breakpoint breakpoint : breakpoints) {
            breakpoint.stopped[thread] = false;
        }
    }

    private boolean watched() {
        int lowest = -1;
        for (int w = watches.size() - 1; w >= 0; w--) {
            Watch watch = watches.get(w);
            if (watch.ended) {
                continue;
            }
            if (isLost(watch)) {
                lowest = w;
                reason = 'e';
            } else if (look(watch) != watch.word) {
                lowest = w;
                reason = 'w';
            }
        }
        lookAnew();
        if (lowest >= 0) {
            which = lowest;
        }
        return lowest >= 0;
    }

    private void step(int thread) {
        Thread t = state.threads.get(thread);
        state.last = thread;
        state.time++;
        char fault = faultOf(t);
        if (fault != '-') {
            t.state = 'f';
            t.fault = fault;
            return;
        }
        Instruction it = code.get(t.place);
        int next = t.place + 1;
        int[] r = t.registers;
        int top = t.stack.size();
        switch (it.kind) {
            case 'c' -> r[it.a] = it.b;
            case 'm' -> r[it.a] = r[it.b];
            case '+' -> r[it.a] += r[it.b];
            case '-' -> r[it.a] -= r[it.b];
            case '*' -> r[it.a] *= r[it.b];
            case 'l' -> r[it.a] = t.stack.get(t.base + it.b);
            case 'g' -> r[it.a] = state.cells[it.b];
            case 's' -> t.stack.set(t.base + it.b, r[it.a]);
            case 'p' -> state.cells[it.b] = r[it.a];
            case 'j' -> next = r[it.a] != 0 ? it.b : next;
            case 'k' -> {
                t.stack.add(next);
                next = functions.get(it.b).first;
            }
            case 'e' -> {
                t.stack.add(t.base);
                t.base = top + 1;
                for (int i = 0; i < it.b; i++) {
                    t.stack.add(0);
                }
            }
            case 'x' -> {
                while (t.stack.size() > t.base) {
                    t.stack.remove(t.stack.size() - 1);
                }
                t.base = t.stack.remove(t.stack.size() - 1);
            }
            case 'r' -> {
                if (t.stack.isEmpty()) {
                    t.state = 'd';
                    next = t.place;
                } else {
                    next = t.stack.remove(top - 1);
                }
            }
            case 'h' -> {
                t.state = 'd';
                next = t.place;
            }
            default -> {
            }
        }
        t.place = next;
    }

    private char faultOf(Thread t) {
        if (!isPlace(t.place)) {
            return 'p';
        }
        Instruction it = code.get(t.place);
        int size = t.stack.size();
        long slot = (long) t.base + it.b;
        return switch (it.kind) {
            case 'k' -> size + 1 > 40 ? 'o' : it.b >= functions.size() ? 'f' : '-';
            case 'e' -> size + 1 + it.b > 40 ? 'o' : '-';
            case 'l', 's' -> slot < 0 || slot >= size ? 'u' : '-';
            case 'x' -> t.base > size || t.base <= 0 ? 'u' : '-';
            default -> '-';
        };
    }

    private int nextThread() {
        int n = state.threads.size();
        for (int i = 1; i <= n; i++) {
            int thread = (state.last + i) % n;
            if (state.threads.get(thread).state == 'r' && !held[thread]) {
                return thread;
            }
        }
        return -1;
    }

    public int run(int steps) {
        argument(in(steps, 1, 500));
        which = -1;
        for (int made = 0; made < steps; made++) {
            int thread = nextThread();
            if (thread < 0) {
                reason = 'd';
                return made;
            }
            if (hit(thread)) {
                return made;
            }
            keptStep(thread);
            if (watched()) {
                return made + 1;
            }
        }
        reason = 'n';
        return steps;
    }

    public int stepLine(int thread, char way) {
        Thread t = need(thread);
        argument("iou".indexOf(way) >= 0);
        supported(t.state == 'r' && !held[thread]);
        which = -1;
        List<int[]> atFirst = unwound(t);
        List<Inlined> inAtFirst = around(t.place);
        for (int made = 0; made < 200; made++) {
            if (hit(thread)) {
                return made;
            }
            keptStep(thread);
            if (watched()) {
                return made + 1;
            }
            if (t.state != 'r') {
                reason = 'd';
                return made + 1;
            }
            boolean there = switch (way) {
                case 'i' -> begins(t.place);
                case 'o' -> begins(t.place) && unwound(t).size() <= atFirst.size()
                        && inAtFirst.containsAll(around(t.place));
                default -> atFirst.size() > 1 && t.stack.size() <= atFirst.get(1)[2];
            };
            if (there) {
                reason = 'n';
                return made + 1;
            }
        }
        reason = 'n';
        return 200;
    }

    public char reason() {
        return reason;
    }

    public int which() {
        element(which >= 0);
        return which;
    }

    private void goBack(int steps) {
        for (int i = 0; i < steps; i++) {
            state = kept.remove(kept.size() - 1).before;
        }
        forget();
        lookAnew();
    }

    public int back(int steps) {
        argument(in(steps, 1, 1000));
        supported(steps <= kept.size());
        goBack(steps);
        return state.time;
    }

    public int backTo() {
        for (int k = kept.size() - 1; k >= 0; k--) {
            for (Breakpoint breakpoint : breakpoints) {
                if (isAt(breakpoint, kept.get(k).before, kept.get(k).thread)) {
                    int steps = kept.size() - k;
                    goBack(steps);
                    return steps;
                }
            }
        }
        throw new NoSuchElementException();
    }

    public int set(int thread, int frame, char letter, int index, int word) {
        Found found = needWord(thread, frame, letter, index);
        supported(found.kind != '#');
        int before = word(state, thread, found, index);
        switch (found.kind) {
            case 'r' -> state.threads.get(thread).registers[found.number] = word;
            case 's' -> state.threads.get(thread).stack.set(found.number + index, word);
            default -> state.cells[found.number + index] = word;
        }
        byHand();
        return before;
    }

    public int jump(int thread, int place) {
        Thread t = need(thread);
        index(isPlace(place));
        supported(t.state == 'r');
        int before = t.place;
        t.place = place;
        byHand();
        return before;
    }

    public int call(int thread, int function, int word) {
        Thread before = need(thread).copy();
        index(in(function, 0, functions.size() - 1));
        supported(before.state == 'r');
        supported(before.stack.size() < 40);
        State all = state.copy();
        Thread t = state.threads.get(thread);
        t.registers = new int[] {word, 0, 0, 0};
        t.stack.add(0);
        t.place = functions.get(function).first;
        boolean returned = false;
        for (int made = 0; made < 200 && !returned && t.state == 'r' && t.stack.size() > before.stack.size(); made++) {
            boolean last = isPlace(t.place) && code.get(t.place).kind == 'r';
            step(thread);
            returned = last && t.stack.size() == before.stack.size();
        }
        if (!returned) {
            state = all;
            throw new UnsupportedOperationException();
        }
        int answer = t.registers[0];
        state.threads.set(thread, before);
        byHand();
        return answer;
    }

    public float doneShare() {
        long done = state.threads.stream().filter(t -> t.state == 'd').count();
        if (state.threads.isEmpty()) {
            throw new ArithmeticException();
        }
        return (float) done / (float) state.threads.size();
    }

    public double meanStack() {
        int sum = state.threads.stream().mapToInt(t -> t.stack.size()).sum();
        if (state.threads.isEmpty()) {
            throw new ArithmeticException();
        }
        return (double) sum / (double) state.threads.size();
    }

    public long checksum() {
        long sum = 7;
        for (int cell : state.cells) {
            sum = 31 * sum + cell;
        }
        for (Thread t : state.threads) {
            List<Integer> words = new ArrayList<>(List.of(t.place, t.base, t.stack.size()));
            for (int register : t.registers) {
                words.add(register);
            }
            words.addAll(t.stack);
            words.add((int) t.state);
            for (int word : words) {
                sum = 31 * sum + word;
            }
        }
        return sum;
    }

    public boolean isTrue() {
        return state.threads.stream().allMatch(t -> unwound(t).stream().allMatch(f -> isPlace(f[0])));
    }
}
