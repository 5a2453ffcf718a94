/**
 * Programs that tests begin with. The base one is a function 0 at the places 0 to 9 that adds 2 to the register 0
 * by two slots, and a function 1 at the places 10 to 13 that calls it with 5 and puts what returns in the cell 3.
 */
final class Sample {
    private Sample() {
    }

    /** Adds instructions, each told as its kind, a and b with blanks between, and ';' between two. */
    static void code(Unwindlens lens, String text) {
        for (String instruction : text.split(";")) {
            String[] parts = instruction.trim().split(" +");
            lens.code(parts[0].charAt(0), Integer.parseInt(parts[1]), Integer.parseInt(parts[2]));
        }
    }

    /** Code of one function, at whose first place a thread begins. */
    static Unwindlens thread(String text) {
        Unwindlens lens = new Unwindlens();
        code(lens, text);
        lens.function(0, text.split(";").length - 1);
        lens.thread(0);
        return lens;
    }

    static Unwindlens functions() {
        Unwindlens lens = new Unwindlens();
        code(lens, "e 0 2; s 0 0; c 1 2; s 1 1; l 2 0; + 2 1; s 2 0; m 0 2; x 0 0; r 0 0");
        lens.function(0, 9);
        lens.rule(1, 'i');
        lens.rule(9, 'o');
        code(lens, "c 0 5; k 0 0; p 0 3; h 0 0");
        lens.function(10, 13);
        return lens;
    }

    /** The base program with a thread that begins in the function 1. */
    static Unwindlens base() {
        Unwindlens lens = functions();
        lens.thread(1);
        return lens;
    }

    /** The base program with the number x in the first slot of function 0 at the places 2 to 8. */
    static Unwindlens named() {
        Unwindlens lens = base();
        lens.scope(0, 9);
        lens.variable(0, 'x', 'i', 1);
        lens.where(0, 2, 8, 's', 0);
        return lens;
    }

    static String shown(Unwindlens lens, int thread, int frame, char letter) {
        int length = lens.show(thread, frame, letter);
        StringBuilder text = new StringBuilder();
        for (int index = 0; index < length; index++) {
            text.append(lens.shown(index));
        }
        return text.toString();
    }
}
