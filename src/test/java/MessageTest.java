/** Promises 9 (message), 10 (seals), 12 (plainBody) and 13 (plainField). */
public final class MessageTest {
    public static void main(String[] args) {
        rightMessages();
        wrongMessages();
        theOneBeforeStays();
        seals();
        simpleBodies();
        relaxedBodies();
        simpleFields();
        relaxedFields();
        firstField();
        noFields();
        largest();
        Gate.finish("MessageTest");
    }

    private static void rightMessages() {
        Gate gate = new Gate();
        Gate.due("one FIELD", gate.message("a:"), 1);
        Gate.due("with byte 10", gate.message("a:\n"), 1);
        Gate.due("with the empty line", gate.message("a:\n\n"), 1);
        Gate.due("two FIELDS of one name", gate.message("From: x\nfrom: y"), 2);
        Gate.due("a FIELD of three lines", gate.message("a: x\n y\n\tz\nb:\n"), 2);
        Gate.due("a line of WHITE", gate.message("a: x\n \t\nb: y\n"), 2);
        Gate.due("a name of 20", gate.message("Abcdefghij-123456789: x"), 1);
        Gate.due("a body that looks like FIELDS", gate.message("a: x\n\nb: y\n\nc"), 1);
        Gate.due("any bytes", gate.message("a:\u0000\u00ff\r:\n\n\u0000\u00ff"), 1);
        Gate.due("twenty FIELDS", gate.message("a:1\n".repeat(20)), 20);
    }

    private static void wrongMessages() {
        Gate gate = new Gate();
        for (String text : new String[] {"", "\n", "\n\nx", "a", "a\n", ":", ": x", " a: x", "\ta: x", "a b: x", "a : x",
            "a_b: x", "a.b: x", "\u00e4: x", "abcdefghij-1234567890: x", "a: x\nb", "a: x\nb\n\nc", "a: x\n:y",
            "a:1\n".repeat(21), "a: x\n\rb: y", "a: x\nb c: d\n"}) {
            Gate.due("message " + text, gate.message(text), -1);
        }
        Gate.due("no MESSAGE yet", gate.gate.plainBody(true), -2);
        Gate.due("no FIELD yet", gate.gate.plainField(0, true), -2);
        Gate.due("no SEALS yet", gate.gate.seals(), 0);
        gate.sender("x@a.com", 1);
        Gate.due("no WISH yet", gate.gate.wish(1), -2);
    }

    private static void theOneBeforeStays() {
        Gate gate = new Gate();
        gate.message("a: x\nDKIM-Signature: y\n\nbody");
        Gate.due("a wrong one", gate.message("b: long enough to write over it\nc: d\nwrong\n\nanother"), -1);
        Gate.due("FIELD 0 stays", gate.plainField(0, false), "a: x");
        Gate.due("the BODY stays", gate.plainBody(false), "body\n");
        Gate.due("the SEALS stay", gate.gate.seals(), 1);
        Gate.due("a right one", gate.message("b: z"), 1);
        Gate.due("FIELD 0 is new", gate.plainField(0, false), "b: z");
        Gate.due("FIELD 1 is gone", gate.plainField(1, false), "-2");
        Gate.due("the BODY is gone", gate.plainBody(false), "\n");
        Gate.due("the SEALS are gone", gate.gate.seals(), 0);
    }

    private static void seals() {
        Gate gate = new Gate();
        gate.message("DKIM-Signature: a\nFrom: b\ndkim-signature:\nDkim-sIGNATURE: v=1;;\nDKIM-Signatures: c\nEKIM-Signature: e\n\n"
                + "DKIM-Signature: d\nXKIM-Signature: e");
        Gate.due("SEALS in any letters", gate.gate.seals(), 3);
        gate.message("From: b");
        Gate.due("no SEAL", gate.gate.seals(), 0);
    }

    private static void body(String body, String simple, String relaxed) {
        Gate gate = new Gate();
        gate.message("a: x\n\n" + body);
        Gate.due("simple body of " + body, gate.plainBody(false), simple);
        Gate.due("relaxed body of " + body, gate.plainBody(true), relaxed);
    }

    private static void simpleBodies() {
        Gate gate = new Gate();
        gate.message("a: x");
        Gate.due("a missing BODY, simple", gate.gate.plainBody(false), 1);
        Gate.due("a missing BODY, simple", gate.out(), "\n");
        Gate.due("a missing BODY, relaxed", gate.gate.plainBody(true), 0);
        body("", "\n", "");
        body("\n", "\n", "");
        body("\n\n\n", "\n", "");
        body("x", "x\n", "x\n");
        body("x\n", "x\n", "x\n");
        body("x\n\n\n", "x\n", "x\n");
        body("\n\nx\n\ny\n\n", "\n\nx\n\ny\n", "\n\nx\n\ny\n");
        body("\r\n\r\n", "\r\n\r\n", "\r\n\r\n");
    }

    private static void relaxedBodies() {
        body(" ", " \n", "");
        body("\t \n \n", "\t \n \n", "");
        body("x \t", "x \t\n", "x\n");
        body("x \n", "x \n", "x\n");
        body("x\n \t\n\n", "x\n \t\n", "x\n");
        body("x\n \ty", "x\n \ty\n", "x\n y\n");
        body(" x \t y\tz  ", " x \t y\tz  \n", " x y z\n");
        body("x\n\n y \n", "x\n\n y \n", "x\n\n y\n");
        body("x \n\t\n  y", "x \n\t\n  y\n", "x\n\n y\n");
        body("\u00ff\u0000 \u0001", "\u00ff\u0000 \u0001\n", "\u00ff\u0000 \u0001\n");
    }

    private static void field(String field, String relaxed) {
        Gate gate = new Gate();
        gate.message("first: 1\n" + field + "\nlast: 3\n\nbody");
        Gate.due("simple FIELD " + field, gate.plainField(1, false), field);
        Gate.due("how many", gate.gate.octet(-1), field.length());
        Gate.due("relaxed FIELD " + field, gate.plainField(1, true), relaxed);
        gate.message("first: 1\n" + field);
        Gate.due("the last, simple FIELD " + field, gate.plainField(1, false), field);
        Gate.due("the last, relaxed FIELD " + field, gate.plainField(1, true), relaxed);
        gate.message("first: 1\n" + field + "\n");
        Gate.due("the last with byte 10, simple FIELD " + field, gate.plainField(1, false), field);
    }

    private static void simpleFields() {
        field("a:", "a:");
        field("a:x", "a:x");
        field("From: x", "from:x");
        field("X-Ab-9:Value:With:Colons", "x-ab-9:Value:With:Colons");
    }

    private static void relaxedFields() {
        field("a:  \t ", "a:");
        field("a: \n ", "a:");
        field("a: x  y\t\tz \t ", "a:x y z");
        field("a:x\n y\n\tz", "a:x y z");
        field("a: \n \n x \n ", "a:x");
        field("a: x \n  y", "a:x y");
        field("AZaz-09:AZ", "azaz-09:AZ");
        field("aBC:\n\tQ \n \tR ", "abc:Q R");
        field("a:\u00c4 \u0000", "a:\u00c4 \u0000");
    }

    private static void firstField() {
        Gate gate = new Gate();
        gate.message("A: x\n y\n\tz\nb: c\n");
        Gate.due("the first FIELD, simple", gate.plainField(0, false), "A: x\n y\n\tz");
        Gate.due("the first FIELD, relaxed", gate.plainField(0, true), "a:x y z");
    }

    private static void noFields() {
        Gate gate = new Gate();
        gate.message("a: x\nb: y\n\nc: z");
        Gate.due("FIELD 2", gate.gate.plainField(2, true), -2);
        Gate.due("FIELD -1", gate.gate.plainField(-1, false), -2);
        Gate.due("FIELD MIN", gate.gate.plainField(Integer.MIN_VALUE, false), -2);
        Gate.due("FIELD MAX", gate.gate.plainField(Integer.MAX_VALUE, true), -2);
        Gate.due("FIELD 1", gate.gate.plainField(1, true), 3);
    }

    private static void largest() {
        Gate gate = new Gate();
        String body = "x".repeat(2996);
        Gate.due("3000 bytes", gate.message("a:\n\n" + body), 1);
        Gate.due("the BODY of 2996 and byte 10", gate.plainBody(true), body + "\n");
        Gate.due("a FIELD of 3000", gate.message("A:" + "y".repeat(2998)), 1);
        Gate.due("its bytes", gate.plainField(0, true), "a:" + "y".repeat(2998));
    }
}
