/** The sum that is due of a whole target, of which each word is told. */
final class Whole {
    private final int[] cells = new int[16];
    private long threads;
    private long factor = 1;

    Whole cell(int cell, int word) {
        cells[cell] = word;
        return this;
    }

    /** Adds a thread: its place, base, registers 0 to 3, state, and the words of its stack. */
    Whole thread(int place, int base, int[] registers, char state, int... words) {
        add(place);
        add(base);
        add(words.length);
        for (int register : registers) {
            add(register);
        }
        for (int word : words) {
            add(word);
        }
        add(state);
        return this;
    }

    private void add(int number) {
        threads = 31 * threads + number;
        factor *= 31;
    }

    long sum() {
        long sum = 7;
        for (int word : cells) {
            sum = 31 * sum + word;
        }
        return sum * factor + threads;
    }

    static int[] registers(int... words) {
        return java.util.Arrays.copyOf(words, 4);
    }
}
