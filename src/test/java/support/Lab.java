/**
 * A target whose thread has the stack and the base that a test asks for, as no plain program leaves them. There is a
 * 'k' at the places 0 to 3, 'e' at 4, 'r' at 5, 'x' at 6, 'n' at 7 to 9; function 0 has 0 to 7, function 1 has 8 and 9.
 */
final class Lab {
    private Lab() {
    }

    /** At most three words; the thread stands at the place 8. */
    static Unwindlens stack(int base, int... words) {
        Unwindlens lens = new Unwindlens();
        Sample.code(lens, "k 0 1; k 0 1; k 0 1; k 0 1; e 0 0; r 0 0; x 0 0; n 0 0; n 0 0; n 0 0");
        lens.function(0, 7);
        lens.function(8, 9);
        lens.thread(0);
        lens.scope(0, 9);
        for (int word = 0; word < 4; word++) {
            lens.variable(0, (char) ('w' + word), 'i', 1);
            lens.where(word, 0, 9, 's', word);
        }
        for (int word = 0; word <= words.length; word++) {
            at(lens, 0);
            lens.set(0, 0, (char) ('w' + word), 0, word < words.length ? words[word] : base);
        }
        // Behind the 'r' the base is above the size, so that a return place of a 'k' becomes the base, and then the
        // last word told.
        at(lens, 4);
        at(lens, 5);
        at(lens, words.length);
        at(lens, 6);
        at(lens, 6);
        lens.jump(0, 8);
        return lens;
    }

    /** Lets the thread 0 make one step from a place. */
    static void at(Unwindlens lens, int place) {
        lens.jump(0, place);
        lens.run(1);
    }
}
