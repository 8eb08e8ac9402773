/** The sentences of A MESSAGE. */
final class MessageSentences {
    private MessageSentences() {
    }

    static void ask() {
        message();
        lines();
        fields();
        alike();
    }

    private static void due(String text, int fields, String body) {
        Gate gate = new Gate();
        Gate.due("FIELDS of '" + text + "'", gate.message(text), fields);
        Gate.due("BODY of '" + text + "'", gate.plainBody(false), body);
    }

    private static void message() {
        Document.says("A MESSAGE: FIELDS, then a line that is empty, then the BODY (any bytes; may be missing with"
                + " its empty line).");
        due("a: x\n\nb", 1, "b\n");
        due("a: x\nb: y\n\nc: z\n\n d", 2, "c: z\n\n d\n");
        due("a: x", 1, "\n");
        due("a: x\n", 1, "\n");
        due("a: x\n\n", 1, "\n");
        StringBuilder all = new StringBuilder();
        for (int c = 0; c < 256; c++) {
            all.append((char) c);
        }
        due("a: x\n\n" + all, 1, all + "\n");
        for (String wrong : new String[] {"", "\n", "\n\nb", "\na: x\n\nb", "b", "a: x\nb\n\nc", "a: x\nb",
            "a: x\n:", " a: x",
            " a: x\nb: y", "\t\na: x"}) {
            Gate.due("no MESSAGE: '" + wrong + "'", new Gate().message(wrong), -1);
        }
    }

    private static void lines() {
        Document.says("Lines end with byte 10 (the last one may without).");
        due("a: x\nb: y", 2, "\n");
        due("a: x\nb: y\n", 2, "\n");
        due("a: x\rb: y\n", 1, "\n");
        due("a: x\n\nb\nc", 1, "b\nc\n");
        due("a: x\n\nb\nc\n", 1, "b\nc\n");
        Gate.due("a line of byte 13 alone", new Gate().message("a: x\n\r\nb"), -1);
    }

    private static void fields() {
        Document.says("FIELD: a line that begins with a name of 1 to 20 letters, digits, -, then \":\", then its"
                + " VALUE, bytes, with the lines behind that begin with WHITE; 1 to 20 FIELDS.");
        for (int c = 0; c < 256; c++) {
            boolean right = c >= 'a' && c <= 'z' || c >= 'A' && c <= 'Z' || c >= '0' && c <= '9' || c == '-'
                    || c == ':';
            Gate.due("a name with byte " + c, new Gate().message("a" + (char) c + "b: x"), right ? 1 : -1);
        }
        for (int length = 0; length <= 22; length++) {
            Gate.due("a name of " + length, new Gate().message("n".repeat(length) + ":"), length >= 1 && length <= 20
                    ? 1 : -1);
        }
        String[] values = {"", "x", ": :", " \t", "\u0000\u00ff\r"};
        for (String value : values) {
            Gate gate = new Gate();
            gate.message("a:" + value + "\nb: y");
            Gate.due("VALUE " + value, gate.plainField(0, false), "a:" + value);
        }
        Gate gate = new Gate();
        Gate.due("lines behind", gate.message("a: x\n y\n\tz: q\n \nb: y\n z\n\n c"), 2);
        Gate.due("the first FIELD", gate.plainField(0, false), "a: x\n y\n\tz: q\n ");
        Gate.due("the second FIELD", gate.plainField(1, false), "b: y\n z");
        Gate.due("the BODY", gate.plainBody(false), " c\n");
        for (int count = 0; count <= 22; count++) {
            Gate.due(count + " FIELDS", new Gate().message("a:\n".repeat(count)), count >= 1 && count <= 20
                    ? count : -1);
        }
        Gate.due("20 FIELDS with lines behind", new Gate().message("a:\n b\n".repeat(20)), 20);
    }

    private static void alike() {
        Document.says("Names are alike if they are with small letters.");
        Gate gate = new Gate();
        for (String name : new String[] {"dkim-signature", "DKIM-SIGNATURE", "Dkim-Signature", "dKIM-sIGNATURe"}) {
            gate.message(name + ": x\nFrom: x@a.com");
            Gate.due("SEALS of " + name, gate.gate.seals(), 1);
        }
        for (String name : new String[] {"dkim-signatur", "dkim-signatures", "dkimsignature", "xkim-signature",
            "dkim-signaturf"}) {
            gate.message(name + ": x\nFrom: x@a.com");
            Gate.due("SEALS of " + name, gate.gate.seals(), 0);
        }
        gate.sender("x@a.com", 1);
        gate.text("_dmarc.a.com", "v=DMARC1; p=reject");
        for (String name : new String[] {"from", "FROM", "From", "fROm"}) {
            gate.message(name + ": x@a.com");
            Gate.due("WISH of " + name, gate.gate.wish(0), 9);
        }
        // A name in h, with great letters, is that of the FIELD with small ones.
        String own = Letter.own("", Letter.BODY).replace("h=from", "h=FROM:to");
        String text = "to: b\nfRom: x@a.com\n" + own + Letter.SIGNER.signed("fRom: x@a.com\nto: b\n" + own) + "\n\n"
                + Letter.BODY;
        Gate.due("h=FROM", Letter.answer(text, Letter.KEY), 2);
    }
}
