/** What is a NAME and what is none, at the edges that the document names. */
final class Names {
    static final String PART = "abcdefghij0123456789";
    /** 60 bytes, in parts of 20, 20 and 18. */
    static final String LONGEST = PART + "." + PART + "." + PART.substring(2);

    static final String[] RIGHT = {"a", "z", "0", "9", "-", "_", "a.b", PART, "a." + PART, PART + ".a",
        "a." + PART + ".a", LONGEST.substring(1), LONGEST, "a.".repeat(29) + "a", "a.".repeat(29) + "aa"};
    static final String[] WRONG = {"", ".", "a.", ".a", "a..a", PART + "a", "a." + PART + "a", PART + "a.a",
        "a." + PART + "a.a", LONGEST + "a", "a" + LONGEST, "a.".repeat(30) + "a", "a.".repeat(30), "a".repeat(60)};

    private Names() {
    }

    /** A NAME of so many bytes, 1 to 60. */
    static String ofLength(int length) {
        StringBuilder name = new StringBuilder("b".repeat(length));
        // Counted from behind, so that the first part is never the empty one.
        for (int i = length - 19; i > 0; i -= 19) {
            name.setCharAt(i, '.');
        }
        return name.toString();
    }

    /** Whether the byte may stand between two letters of a NAME. */
    static boolean mayStand(int c) {
        return "abcdefghijklmnopqrstuvwxyz0123456789-_.".indexOf(c) >= 0;
    }
}
