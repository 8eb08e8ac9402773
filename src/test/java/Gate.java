import java.nio.charset.StandardCharsets;

/** Drives one PostGate with texts instead of words of four bytes, and counts the answers that are not due. */
final class Gate {
    private static int asked = 0;
    private static int wrong = 0;
    private static int sentences = 0;
    private static String sentence = "";

    final PostGate gate = new PostGate();

    /** The sentence of the document that the answers from here on are about. */
    static void sentence(String words) {
        sentences++;
        sentence = "[" + words + "] ";
    }

    /** How many answers have been looked at. */
    static int asked() {
        return asked;
    }

    static void due(String what, long got, long want) {
        asked++;
        if (got != want) {
            wrong++;
            System.out.println(sentence + what + " answered " + got + ", due is " + want);
        }
    }

    static void due(String what, String got, String want) {
        asked++;
        if (!got.equals(want)) {
            wrong++;
            System.out.println(sentence + what + " answered '" + got + "', due is '" + want + "'");
        }
    }

    /** The last line of a test's main method. */
    static void finish(String test) {
        String about = sentences == 0 ? "" : " to " + sentences + " sentences";
        System.out.println(test + ": " + asked + " answers" + about + ", " + wrong + " not as due");
        if (wrong != 0) {
            System.exit(1);
        }
    }

    /** The text comes to the tape: whole twenties of bytes, then the cut. */
    Gate tape(String text) {
        byte[] bytes = text.getBytes(StandardCharsets.ISO_8859_1);
        int had = 0;
        for (int i = 0; i < bytes.length; i += 20) {
            had = gate.feed(four(bytes, i), four(bytes, i + 4), four(bytes, i + 8), four(bytes, i + 12),
                    four(bytes, i + 16));
        }
        if (had < bytes.length) {
            throw new IllegalStateException("the tape was not empty, or the text is too long");
        }
        gate.end(bytes.length);
        return this;
    }

    static int four(byte[] bytes, int start) {
        int word = 0;
        for (int i = start; i < start + 4; i++) {
            word = word << 8 | (i < bytes.length ? bytes[i] & 255 : 0);
        }
        return word;
    }

    int text(String name, String value) {
        return tape(name + " " + value).gate.entry(0, 0);
    }

    int address(String name, int address) {
        return tape(name).gate.entry(1, address);
    }

    int exchange(String name, String other) {
        return tape(name + " " + other).gate.entry(2, 0);
    }

    int trouble(String name) {
        return tape(name).gate.entry(3, 0);
    }

    int suffix(String name) {
        return tape(name).gate.entry(4, 0);
    }

    int sender(String text, int address) {
        return tape(text).gate.sender(address);
    }

    int message(String text) {
        return tape(text).gate.message();
    }

    String out() {
        StringBuilder text = new StringBuilder();
        int size = gate.octet(-1);
        for (int i = 0; i < size; i++) {
            text.append((char) gate.octet(i));
        }
        return text.toString();
    }

    String house(String name) {
        int size = tape(name).gate.house();
        return size < 0 ? "" + size : out();
    }

    String plainBody(boolean relaxed) {
        int size = gate.plainBody(relaxed);
        return size < 0 ? "" + size : out();
    }

    String plainField(int k, boolean relaxed) {
        int size = gate.plainField(k, relaxed);
        return size < 0 ? "" + size : out();
    }
}
