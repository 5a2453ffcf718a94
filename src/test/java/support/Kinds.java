/** What the document says of the numbers that instructions of each kind have. */
final class Kinds {
    static final String ALL = "ncm+-*lgspjkexrh";
    /** Those whose a is a register 0 to 3. */
    static final String WITH_REGISTER = "cm+-*lgspj";
    /** Those whose b has a range, from 0 on. */
    static final String WITH_RANGE = "m+-*lsgpjke";
    private static final int[] HIGHEST = {3, 3, 3, 3, 3, 3, 15, 15, 59, 5, 4};

    private Kinds() {
    }

    /** The highest b of a kind that has a range. */
    static int highest(char kind) {
        return HIGHEST[WITH_RANGE.indexOf(kind)];
    }
}
