/** The boundary cases of promises 9 (message), 10 (seals), 12 (plainBody) and 13 (plainField). */
public final class MessageEdgesTest {
    private static final int MIN = Integer.MIN_VALUE;
    private static final int MAX = Integer.MAX_VALUE;

    public static void main(String[] args) {
        oneToTwentyFields();
        nameOf20();
        signsOfNames();
        colon();
        linesOfAField();
        lastLine();
        emptyLine();
        bodyMayBeMissing();
        anyBytes();
        longestMessage();
        refusedStays();
        howManySeals();
        sealNamesAreAlike();
        bodyWithoutMessage();
        emptyLinesAtTheEnd();
        whiteAtTheEnds();
        whiteWithin();
        endsWithByte10();
        emptyBody();
        fieldK();
        simpleFields();
        relaxedFields();
        Gate.finish("MessageEdgesTest");
    }

    private static int message(String text) {
        return new Gate().message(text);
    }

    private static String body(String body, boolean relaxed) {
        Gate gate = new Gate();
        gate.message("a: x\n\n" + body);
        return gate.plainBody(relaxed);
    }

    private static String field(String field, boolean relaxed) {
        Gate gate = new Gate();
        gate.message(field);
        return gate.plainField(0, relaxed);
    }

    private static void oneToTwentyFields() {
        Gate.sentence("A MESSAGE: 1 to 20 FIELDS; message: how many FIELDS");
        Gate.due("none", message(""), -1);
        Gate.due("none, and an empty line", message("\n"), -1);
        Gate.due("none, and a BODY", message("\na: x\n"), -1);
        for (int count = 1; count <= 22; count++) {
            int want = count <= 20 ? count : -1;
            Gate.due(count + " FIELDS", message("a: x\n".repeat(count)), want);
            Gate.due(count + " FIELDS and a BODY", message("a: x\n".repeat(count) + "\nbody"), want);
            Gate.due(count + " FIELDS of two lines", message("a: x\n y\n".repeat(count)), want);
        }
        Gate.due("20 FIELDS, and a BODY like FIELDS", message("a: x\n".repeat(20) + "\na: x\na: x\n"), 20);
        Gate.due("100 FIELDS", message("a: x\n".repeat(100)), -1);
    }

    private static void nameOf20() {
        Gate.sentence("FIELD: a line that begins with a name of 1 to 20");
        for (int length = 0; length <= 22; length++) {
            int want = length >= 1 && length <= 20 ? 1 : -1;
            Gate.due("a name of " + length, message("x".repeat(length) + ": y"), want);
            Gate.due("a second name of " + length, message("a: b\n" + "x".repeat(length) + ":\n"), want < 0 ? -1 : 2);
        }
    }

    private static void signsOfNames() {
        Gate.sentence("FIELD: letters, digits, -, then :");
        for (int c = 0; c < 256; c++) {
            boolean right = c < 128 && (Character.isLetterOrDigit(c) || c == '-');
            // A name that ends where its colon stands is right, too.
            Gate.due("byte " + c + " within", message("x" + (char) c + "y: z"), right || c == ':' ? 1 : -1);
            Gate.due("byte " + c + " alone", message((char) c + ": z"), right ? 1 : -1);
        }
    }

    private static void colon() {
        Gate.sentence("FIELD: then \":\", then its VALUE, bytes");
        Gate.due("no colon", message("abc"), -1);
        Gate.due("no colon, and a line behind", message("abc\n: x"), -1);
        Gate.due("a colon in the line behind", message("abc\n d: x"), -1);
        Gate.due("no VALUE", message("abc:"), 1);
        Gate.due("a VALUE of one byte", message("abc:x"), 1);
        Gate.due("a VALUE of colons", message("abc:::"), 1);
        Gate.due("a second line without", message("abc: x\ndef\n"), -1);
    }

    private static void linesOfAField() {
        Gate.sentence("FIELD: with the lines behind that begin with WHITE (bytes 32 and 9)");
        for (int c = 0; c < 256; c++) {
            boolean white = c == 32 || c == 9;
            // An empty line is what byte 10 makes there; the rest is the BODY.
            Gate.due("a line that begins with byte " + c, message("a: x\n" + (char) c + "\"y\n"), white || c == 10 ? 1 : -1);
        }
        Gate.due("the first line", message(" a: x"), -1);
        Gate.due("the first line, byte 9", message("\ta: x"), -1);
        Gate.due("the first line before a FIELD", message(" x\na: y"), -1);
        Gate.due("the first line before the empty one", message(" x\n\na: y"), -1);
        Gate.due("a line of one blank", message("a: x\n \nb: y\n"), 2);
        Gate.due("the last line, a blank without byte 10", message("a: x\n "), 1);
        Gate.due("a line of WHITE behind the empty line", message("a: x\n\n \n"), 1);
    }

    private static void lastLine() {
        Gate.sentence("Lines end with byte 10 (the last one may without)");
        Gate gate = new Gate();
        for (String end : new String[] {"", "\n", "\n\n"}) {
            Gate.due("one FIELD", gate.message("a: x" + end), 1);
            Gate.due("it is the same", gate.plainField(0, false), "a: x");
            Gate.due("two lines", gate.message("a: x\n y" + end), 1);
            Gate.due("they are the same", gate.plainField(0, false), "a: x\n y");
            Gate.due("two FIELDS", gate.message("a: x\nb: y" + end), 2);
            Gate.due("the second", gate.plainField(1, false), "b: y");
            Gate.due("no BODY", gate.plainBody(true), "");
        }
        Gate.due("byte 13 is no end", message("a: x\rb"), 1);
    }

    private static void emptyLine() {
        Gate.sentence("A MESSAGE: FIELDS, then a line that is empty, then the BODY");
        Gate gate = new Gate();
        gate.message("a: x\n\nb");
        Gate.due("behind the empty line", gate.plainBody(false), "b\n");
        gate.message("a: x\n\n\nb");
        Gate.due("a second empty line is the BODY's", gate.plainBody(false), "\nb\n");
        gate.message("a: x\n \n\nb");
        Gate.due("a line with a blank is not empty", gate.plainBody(false), "b\n");
        Gate.due("byte 13 is not empty", message("a: x\n\r\n\nb"), -1);
    }

    private static void bodyMayBeMissing() {
        Gate.sentence("the BODY (may be missing with its empty line)");
        for (String text : new String[] {"a: x", "a: x\n", "a: x\n\n"}) {
            Gate gate = new Gate();
            Gate.due("a MESSAGE", gate.message(text), 1);
            Gate.due("simple", gate.plainBody(false), "\n");
            Gate.due("relaxed", gate.plainBody(true), "");
        }
    }

    private static void anyBytes() {
        Gate.sentence("then the BODY (any bytes); then its VALUE, bytes");
        for (int c = 0; c < 256; c++) {
            Gate gate = new Gate();
            if (c != 10) {
                Gate.due("byte " + c + " in a VALUE", gate.message("a:x" + (char) c + "y"), 1);
                Gate.due("it is there", gate.plainField(0, false), "a:x" + (char) c + "y");
            }
            Gate.due("byte " + c + " in a BODY", gate.message("a:\n\nx" + (char) c + "y"), 1);
            Gate.due("it is there", gate.plainBody(false), "x" + (char) c + "y\n");
        }
    }

    private static void longestMessage() {
        Gate.sentence("THE TAPE has at most 3000 (the longest MESSAGE)");
        Gate gate = new Gate();
        for (int body = 2994; body <= 2996; body++) {
            Gate.due("a BODY of " + body, gate.message("a:\n\n" + "x".repeat(body)), 1);
            Gate.due("simple", gate.gate.plainBody(false), body + 1);
            Gate.due("relaxed", gate.gate.plainBody(true), body + 1);
        }
        gate.message("a:\n\n" + "x".repeat(2995) + "\n");
        Gate.due("a BODY with its byte 10", gate.gate.plainBody(false), 2996);
        for (int value = 2997; value <= 2998; value++) {
            Gate.due("a VALUE of " + value, gate.message("A:" + "x".repeat(value)), 1);
            Gate.due("simple", gate.gate.plainField(0, false), value + 2);
            Gate.due("relaxed", gate.gate.plainField(0, true), value + 2);
        }
        Gate.due("1000 lines", gate.message("a:" + "\n x".repeat(999)), 1);
        Gate.due("relaxed", gate.gate.plainField(0, true), 2 + 999 * 2 - 1);
    }

    private static void refusedStays() {
        Gate.sentence("message: REFUSED if it is none (the MESSAGE before stays)");
        Gate gate = new Gate();
        gate.message("a: x\nb: y\ndkim-signature: z\n\nbody");
        for (String wrong : new String[] {"", "\n", "a", ":", " a: q", "c: q\n".repeat(21), "c: q\nd: r\ne\n\nother",
            "x".repeat(21) + ": q"}) {
            Gate.due("a wrong one: " + wrong, gate.message(wrong), -1);
            Gate.due("FIELD 0", gate.plainField(0, false), "a: x");
            Gate.due("FIELD 2", gate.plainField(2, false), "dkim-signature: z");
            Gate.due("FIELD 3", gate.plainField(3, false), "-2");
            Gate.due("the BODY", gate.plainBody(false), "body\n");
            Gate.due("the SEALS", gate.gate.seals(), 1);
        }
        Gate.due("a right one", gate.message("c: q"), 1);
        Gate.due("FIELD 0 is another", gate.plainField(0, false), "c: q");
        Gate.due("FIELD 1 is gone", gate.plainField(1, false), "-2");
        Gate.due("the SEALS are gone", gate.gate.seals(), 0);
    }

    private static void howManySeals() {
        Gate.sentence("seals: How many SEALS; 0 without a MESSAGE");
        Gate gate = new Gate();
        Gate.due("without a MESSAGE", gate.gate.seals(), 0);
        gate.message("a");
        Gate.due("with a refused one", gate.gate.seals(), 0);
        for (int count = 0; count <= 20; count++) {
            gate.message("dkim-signature: x\n".repeat(count) + "a: x\n".repeat(20 - count));
            Gate.due(count + " of 20", gate.gate.seals(), count);
        }
        gate.message("a: x\n\ndkim-signature: x\n");
        Gate.due("none in the BODY", gate.gate.seals(), 0);
    }

    private static void sealNamesAreAlike() {
        Gate.sentence("Names are alike if they are with small letters");
        Gate gate = new Gate();
        for (String name : new String[] {"dkim-signature", "DKIM-SIGNATURE", "Dkim-signaturE"}) {
            gate.message(name + ":");
            Gate.due(name, gate.gate.seals(), 1);
        }
        for (String name : new String[] {"dkim-signatur", "dkim-signatures", "xdkim-signature", "ekim-signature",
            "dkim-signaturf", "dkim0signature", "dkimsignature"}) {
            gate.message(name + ":");
            Gate.due(name, gate.gate.seals(), 0);
        }
    }

    private static void bodyWithoutMessage() {
        Gate.sentence("plainBody: how many bytes; NONE without a MESSAGE");
        Gate gate = new Gate();
        gate.house("c.b.a");
        gate.message("a");
        Gate.due("simple", gate.gate.plainBody(false), -2);
        Gate.due("relaxed", gate.gate.plainBody(true), -2);
        Gate.due("OUT stays", gate.out(), "b.a");
        gate.message("a:\n\nx");
        Gate.due("simple with one", gate.gate.plainBody(false), 2);
        Gate.due("OUT is new", gate.out(), "x\n");
        Gate.due("relaxed with one", gate.gate.plainBody(true), 2);
    }

    private static void emptyLinesAtTheEnd() {
        Gate.sentence("PLAIN: BODY: lines at the end that are empty go");
        for (boolean relaxed : new boolean[] {false, true}) {
            for (int count = 0; count <= 4; count++) {
                String lines = "\n".repeat(count);
                Gate.due(count + " at the end", body("x" + lines, relaxed), "x\n");
                Gate.due(count + " within", body("x\n" + lines + "y" + lines, relaxed), "x\n" + lines + "y\n");
                Gate.due(count + " at the beginning", body(lines + "x", relaxed), lines + "x\n");
                Gate.due(count + " alone", body(lines, relaxed), relaxed ? "" : "\n");
            }
            Gate.due("byte 13 is not empty", body("x\n\r\n\n", relaxed), "x\n\r\n");
        }
        Gate.due("a blank is not empty, simple", body("x\n \n\n", false), "x\n \n");
        Gate.due("a blank is empty, relaxed", body("x\n \n\n", true), "x\n");
        Gate.due("2994 of them", body("\n".repeat(2994), false), "\n");
    }

    private static void whiteAtTheEnds() {
        Gate.sentence("(relaxed: WHITE at the ends of lines goes first)");
        for (int c = 0; c < 256; c++) {
            boolean white = c == 32 || c == 9;
            String sign = String.valueOf((char) c);
            if (c != 10) {
                Gate.due("byte " + c, body("x" + sign + "\ny\n", true), white ? "x\ny\n" : "x" + sign + "\ny\n");
                Gate.due("byte " + c + " at the last end", body("x" + sign, true), white ? "x\n" : "x" + sign + "\n");
                Gate.due("byte " + c + ", simple", body("x" + sign + "\ny\n", false), "x" + sign + "\ny\n");
                Gate.due("byte " + c + " alone", body(sign, true), white ? "" : sign + "\n");
            }
        }
        Gate.due("more of them", body("x \t \ny\t\t", true), "x\ny\n");
        Gate.due("lines that are empty then", body("x\n \t\n\t\n", true), "x\n");
        Gate.due("such a line within", body("x\n \t\ny", true), "x\n\ny\n");
    }

    private static void whiteWithin() {
        Gate.sentence("(relaxed: and WHITE within is one blank each)");
        Gate.due("one blank", body("x y", true), "x y\n");
        Gate.due("byte 9", body("x\ty", true), "x y\n");
        Gate.due("two places", body("x y\tz", true), "x y z\n");
        Gate.due("many", body("x \t  \ty", true), "x y\n");
        Gate.due("at the beginning", body("\tx", true), " x\n");
        Gate.due("many at the beginning of the second line", body("x\n \t y", true), "x\n y\n");
        Gate.due("simple", body("\tx \ty", false), "\tx \ty\n");
        Gate.due("other bytes are not WHITE", body("x\r\13\f y", true), "x\r\13\f y\n");
    }

    private static void endsWithByte10() {
        Gate.sentence("one that is not empty then ends with byte 10");
        for (boolean relaxed : new boolean[] {false, true}) {
            Gate.due("without", body("x", relaxed), "x\n");
            Gate.due("with", body("x\n", relaxed), "x\n");
            Gate.due("with two", body("x\n\n", relaxed), "x\n");
            Gate.due("one byte that is not 10", body("\0", relaxed), "\0\n");
        }
    }

    private static void emptyBody() {
        Gate.sentence("(simple: an empty one is byte 10; relaxed: nothing)");
        for (String empty : new String[] {"", "\n", "\n\n"}) {
            Gate.due("simple", body(empty, false), "\n");
            Gate.due("relaxed", body(empty, true), "");
        }
        for (String white : new String[] {" ", "\t", " \n", " \n\t\n"}) {
            Gate.due("WHITE, simple", body(white, false), white.endsWith("\n") ? white : white + "\n");
            Gate.due("WHITE, relaxed", body(white, true), "");
        }
        Gate gate = new Gate();
        gate.message("a:");
        Gate.due("how many, simple", gate.gate.plainBody(false), 1);
        Gate.due("how many, relaxed", gate.gate.plainBody(true), 0);
    }

    private static void fieldK() {
        Gate.sentence("plainField: how many bytes; NONE if there is none");
        Gate gate = new Gate();
        Gate.due("FIELD 0 without a MESSAGE", gate.gate.plainField(0, true), -2);
        for (int count : new int[] {1, 2, 19, 20}) {
            gate.message("a: x\n".repeat(count - 1) + "bc: yz\n\nd: e\n");
            Gate.due("the last of " + count, gate.gate.plainField(count - 1, false), 6);
            Gate.due("the last of " + count + ", relaxed", gate.gate.plainField(count - 1, true), 5);
            for (int k : new int[] {count, count + 1, 20, 21, -1, -2, MIN, MAX}) {
                Gate.due("FIELD " + k + " of " + count, gate.gate.plainField(k, false), -2);
                Gate.due("FIELD " + k + " of " + count + ", relaxed", gate.gate.plainField(k, true), -2);
            }
            Gate.due("OUT stays", gate.out(), "bc:yz");
        }
        Gate.due("FIELD 0 of 20", gate.plainField(0, false), "a: x");
    }

    private static void simpleFields() {
        Gate.sentence("FIELDS: simple: as they are, without the last byte 10");
        for (String field : new String[] {"A:", "A:x", "A: x ", "A: x\n y", "A:\n \n\t", "A:\n "}) {
            Gate.due("without it", field(field, false), field);
            Gate.due("with it", field(field + "\n", false), field);
            Gate.due("with a FIELD behind", field(field + "\nB: z", false), field);
            Gate.due("with a BODY behind", field(field + "\n\nx", false), field);
        }
    }

    private static void relaxedFields() {
        Gate.sentence("relaxed: the name with small letters, the VALUE with its bytes 10 left out, WHITE one blank each, none at its ends");
        Gate.due("the ends of the letters", field("AZaz09-:AZ", true), "azaz09-:AZ");
        Gate.due("no VALUE", field("A:", true), "a:");
        for (String white : new String[] {" ", "\t", "  ", " \t ", "\n ", " \n\t", "\n \n "}) {
            Gate.due("a VALUE of WHITE", field("A:" + white, true), "a:");
            Gate.due("at its beginning", field("A:" + white + "x", true), "a:x");
            Gate.due("at its end", field("A:x" + white, true), "a:x");
            Gate.due("within", field("A:x" + white + "y", true), "a:x y");
            Gate.due("anywhere", field("A:" + white + "x" + white + "y" + white, true), "a:x y");
        }
        for (int c = 0; c < 256; c++) {
            if (c != 10 && c != 32 && c != 9) {
                Gate.due("byte " + c, field("a: " + (char) c + " ", true), "a:" + (char) c);
            }
        }
    }
}
