import java.util.concurrent.Callable;

/** What an object shows of itself by calls that change nothing. */
final class Digest {
    private final StringBuilder text = new StringBuilder();

    private Digest() {
    }

    static String of(Unwindlens lens) {
        Digest digest = new Digest();
        digest.addTarget(lens);
        for (int thread = 0; thread < 3; thread++) {
            digest.addThread(lens, thread);
        }
        digest.addSession(lens);
        return digest.text.toString();
    }

    /** What a call answers, or the name of what it throws. */
    static String answerOf(Callable<?> call) {
        try {
            Object answer = call.call();
            return answer instanceof Character letter ? "'" + letter + "'" : String.valueOf(answer);
        } catch (Exception e) {
            return e.getClass().getName();
        }
    }

    private void add(Callable<?> call) {
        text.append(answerOf(call)).append(' ');
    }

    private void addTarget(Unwindlens lens) {
        add(lens::time);
        add(lens::checksum);
        add(lens::isTrue);
        add(lens::doneShare);
        add(lens::meanStack);
        for (int cell = 0; cell < 16; cell++) {
            int number = cell;
            add(() -> lens.cell(number));
        }
    }

    private void addThread(Unwindlens lens, int thread) {
        add(() -> lens.state(thread));
        add(() -> lens.fault(thread));
        for (int register = 0; register < 4; register++) {
            int number = register;
            add(() -> lens.register(thread, number));
        }
        add(() -> lens.frames(thread));
        int frames = thread < 3 && answerOf(() -> lens.frames(thread)).matches("\\d+") ? lens.frames(thread) : 0;
        for (int frame = 0; frame < frames; frame++) {
            addFrame(lens, thread, frame);
        }
        text.append('\n');
    }

    private void addFrame(Unwindlens lens, int thread, int frame) {
        for (char what : "fplib".toCharArray()) {
            add(() -> lens.frame(thread, frame, what));
        }
        for (char letter = 'a'; letter <= 'z'; letter++) {
            char name = letter;
            if (lens.see(thread, frame, name) != 'n') {
                text.append(name);
                for (int index = 0; index < 4; index++) {
                    int word = index;
                    add(() -> lens.value(thread, frame, name, word));
                }
            }
        }
    }

    private void addSession(Unwindlens lens) {
        add(lens::reason);
        add(lens::which);
        for (int breakpoint = 0; breakpoint < 8; breakpoint++) {
            int number = breakpoint;
            add(() -> lens.hits(number));
        }
        for (int index = 0; index < 64; index++) {
            int sign = index;
            add(() -> lens.shown(sign));
        }
    }
}
