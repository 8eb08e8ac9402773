/** The sentences from THE TAPE to WHITE. */
final class TapeSentences {
    private TapeSentences() {
    }

    static void ask() {
        tape();
        out();
        names();
        under();
        white();
    }

    /** How many bytes the TAPE has: the greatest n that end takes. */
    private static int sizeOf(PostGate gate) {
        int size = 3000;
        while (size > 0 && gate.end(size) != size) {
            size--;
        }
        return size;
    }

    private static void tape() {
        Document.says("THE TAPE has bytes, none at first, at most 3000; calls that read it empty it.");
        PostGate gate = new PostGate();
        Gate.due("a new TAPE", sizeOf(gate), 0);
        for (int i = 1; i <= 150; i++) {
            Gate.due("feed", gate.feed(1, 2, 3, 4, 5), 20 * i);
        }
        Gate.due("feed to 3000", gate.feed(1, 2, 3, 4, 5), -3);
        Gate.due("it stays at 3000", sizeOf(gate), 3000);
        Gate reader = new Gate();
        // A tape that is read is gone, whether it was what the call asks for or not.
        for (String text : new String[] {"a.com", "x@a.com", "a: b", "?"}) {
            reader.tape(text).gate.entry(1, 0);
            Gate.due("after entry of " + text, sizeOf(reader.gate), 0);
            reader.tape(text).gate.sender(0);
            Gate.due("after sender of " + text, sizeOf(reader.gate), 0);
            reader.tape(text).gate.message();
            Gate.due("after message of " + text, sizeOf(reader.gate), 0);
            reader.tape(text).gate.house();
            Gate.due("after house of " + text, sizeOf(reader.gate), 0);
            reader.tape(text).gate.digest();
            Gate.due("after digest of " + text, sizeOf(reader.gate), 0);
        }
        PostGate other = reader.tape("a.com").gate;
        int[] answers = {other.forget(), other.permission(), other.cost(0), other.seals(), other.sealed(0, 0),
            other.plainBody(true), other.plainField(0, true), other.wish(0), other.octet(0), other.octet(-1)};
        Gate.due("after " + answers.length + " calls that do not read it", sizeOf(other), 5);
    }

    private static void out() {
        Document.says("OUT has bytes, none at first.");
        Gate gate = new Gate();
        Gate.due("how many at first", gate.gate.octet(-1), 0);
        Gate.due("the first of none", gate.gate.octet(0), -2);
        Gate.due("a HOUSE", gate.house("a.com"), "a.com");
        Gate.due("how many then", gate.gate.octet(-1), 5);
        Gate.due("a shorter one", gate.house("b"), "b");
        Gate.due("nothing is left of the longer one", gate.gate.octet(1), -2);
    }

    private static void names() {
        Document.says("NAMES: 1 to 60 bytes, parts of 1 to 20 small letters, digits, - and _, with . between.");
        Gate gate = new Gate();
        for (String name : Names.RIGHT) {
            Gate.due("a NAME: " + name, gate.trouble(name) > 0 ? 1 : 0, 1);
        }
        for (String name : Names.WRONG) {
            Gate.due("no NAME: " + name, gate.trouble(name), -1);
        }
        gate.gate.forget();
        for (int c = 0; c < 256; c++) {
            boolean right = c >= 'a' && c <= 'z' || c >= '0' && c <= '9' || c == '-' || c == '_' || c == '.';
            Gate.due("with byte " + c, gate.house("a" + (char) c + "b").equals("-1") ? 0 : 1, right ? 1 : 0);
        }
    }

    private static void under() {
        Document.says("A NAME is UNDER another one if it is it, or ends with . and it.");
        Gate gate = new Gate();
        gate.suffix("b.c");
        Gate.due("it is it", gate.house("b.c"), "b.c");
        Gate.due("ends with . and it", gate.house("a.b.c"), "a.b.c");
        Gate.due("ends with more parts and it", gate.house("y.x.a.b.c"), "a.b.c");
        Gate.due("ends with it, but not with . before", gate.house("x.ab.c"), "ab.c");
        Gate.due("begins with it", gate.house("b.c.d"), "c.d");
        Gate.due("it is UNDER this one", gate.house("c"), "c");
        Gate.due("_ is no .", gate.house("x.a_b.c"), "a_b.c");
    }

    private static void white() {
        Document.says("WHITE: bytes 32 and 9.");
        for (int c = 0; c < 256; c++) {
            if (c == 10) {
                continue;
            }
            boolean white = c == 32 || c == 9;
            Gate gate = new Gate();
            Gate.due("a line that begins with byte " + c, gate.message("a: x\n" + (char) c + "y"), white ? 1 : -1);
            gate.message("a:" + (char) c + "x" + (char) c + "y" + (char) c);
            String kept = "a:" + (char) c + "x" + (char) c + "y" + (char) c;
            Gate.due("a FIELD with byte " + c, gate.plainField(0, true), white ? "a:x y" : kept);
        }
    }
}
