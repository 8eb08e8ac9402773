/** The promises 1 to 17, each in its own words. */
final class PromiseSentences {
    private static final int MIN = Integer.MIN_VALUE;
    private static final int MAX = Integer.MAX_VALUE;

    private PromiseSentences() {
    }

    static void ask() {
        newObject();
        feed();
        end();
        entry();
        forget();
        sender();
        permission();
        cost();
        message();
        seals();
        sealed();
        plainBody();
        plainField();
        house();
        wish();
        digest();
        octet();
    }

    private static void newObject() {
        Document.says("`PostGate()`: Nothing is known.");
        // Another object that knows all there is changes nothing.
        Gate other = World.of("v=spf1 a:none.com all");
        other.message(Letter.sealed(""));
        other.gate.permission();
        other.house("a.com");
        PostGate gate = new PostGate();
        Gate.due("the TAPE", gate.end(1), -1);
        Gate.due("entries", gate.forget(), 0);
        Gate.due("the SENDER", gate.permission(), -1);
        Gate.due("COUNTED", gate.cost(0), 0);
        Gate.due("VOID", gate.cost(1), 0);
        Gate.due("SEALS", gate.seals(), 0);
        Gate.due("SEAL 0", gate.sealed(0, 0), -2);
        Gate.due("the BODY", gate.plainBody(false), -2);
        Gate.due("FIELD 0", gate.plainField(0, false), -2);
        Gate.due("the WISH", gate.wish(0), -1);
        Gate.due("OUT", gate.octet(-1), 0);
        Gate.due("byte 0 of OUT", gate.octet(0), -2);
    }

    private static void feed() {
        Document.says("`int feed(int a, int b, int c, int d, int e)`: Twenty bytes, five times four, the highest of"
                + " each first, come to the TAPE: how many it has; FULL if it would have more than 3000.");
        PostGate gate = new PostGate();
        Gate.due("the first", gate.feed(0x613a0001, 0x02030405, 0x7f8081ff, 0xfefdfcfb, 0x80000000), 20);
        Gate.due("the second", gate.feed(-1, 0, MIN, MAX, 1), 40);
        gate.message();
        gate.plainField(0, false);
        int[] due = {0x61, 0x3a, 0, 1, 2, 3, 4, 5, 0x7f, 0x80, 0x81, 255, 254, 253, 252, 251, 0x80, 0, 0, 0, 255,
                255, 255, 255, 0, 0,
            0, 0, 0x80, 0, 0, 0, 0x7f, 255, 255, 255, 0, 0, 0, 1};
        Gate.due("how many", gate.octet(-1), due.length);
        for (int i = 0; i < due.length; i++) {
            Gate.due("byte " + i, gate.octet(i), due[i]);
        }
        for (int size : new int[] {0, 1, 19}) {
            gate.feed(0, 0, 0, 0, 0);
            gate.end(size);
            int rounds = (3000 - size) / 20;
            for (int i = 1; i <= rounds; i++) {
                Gate.due("feed to " + size, gate.feed(1, 2, 3, 4, 5), size + 20 * i);
            }
            Gate.due("FULL from " + size, gate.feed(1, 2, 3, 4, 5), -3);
            Gate.due("none of them came", gate.end(size + 20 * rounds + 1), -1);
            Gate.due("none of them went", gate.end(size + 20 * rounds), size + 20 * rounds);
            gate.digest();
        }
    }

    private static void end() {
        Document.says("`int end(int n)`: The TAPE is cut to its first n bytes: n; REFUSED if it has less, or n is"
                + " below 0.");
        PostGate gate = new PostGate();
        Gate.due("0 of none", gate.end(0), 0);
        Gate.due("1 of none", gate.end(1), -1);
        gate.feed(0x61626364, 0x65666768, 0x696a6b6c, 0x6d6e6f70, 0x71727374);
        for (int n : new int[] {21, MAX, -1, MIN}) {
            Gate.due(n + " of 20", gate.end(n), -1);
        }
        Gate.due("20 of 20", gate.end(20), 20);
        Gate.due("3 of 20", gate.end(3), 3);
        Gate.due("4 of 3", gate.end(4), -1);
        gate.feed(0x61626364, 0x65666768, 0x696a6b6c, 0x6d6e6f70, 0x71727374);
        Gate.due("5 of 23", gate.end(5), 5);
        gate.house();
        StringBuilder text = new StringBuilder();
        for (int i = 0; i < gate.octet(-1); i++) {
            text.append((char) gate.octet(i));
        }
        Gate.due("its first bytes", text.toString(), "abcab");
    }

    private static void entry() {
        Document.says("`int entry(int sort, int address)`: An entry, sort 0 to 4: TEXT (the TAPE is a NAME, a"
                + " blank, the value), ADDRESS (a NAME; the int), EXCHANGE (a NAME, a blank, a NAME), TROUBLE,"
                + " SUFFIX (a NAME): how many there are. REFUSED for others; FULL with 40, first.");
        String[] tapes = {"a.com", "a.com ", "a.com b.com", "a.com B", "", " ", "A", " b.com", "a.com\tb.com",
            "a.com  b.com", "a.com b.com "};
        // The sorts 0 to 4 that each tape is right for.
        String[] right = {"134", "0", "02", "0", "", "", "", "", "", "0", "0"};
        for (int sort = -1; sort <= 5; sort++) {
            for (int i = 0; i < tapes.length; i++) {
                Gate gate = new Gate();
                Gate.due("sort " + sort + " of '" + tapes[i] + "'", gate.tape(tapes[i]).gate.entry(sort, 1),
                        right[i].contains("" + sort) ? 1 : -1);
            }
        }
        for (int sort : new int[] {MIN, MAX, 256, -256}) {
            Gate.due("sort " + sort, new Gate().tape("a.com").gate.entry(sort, 1), -1);
        }
        Gate gate = new Gate();
        for (int i = 1; i <= 40; i++) {
            Gate.due("how many", gate.tape("a.com" + (i % 5 == 0 || i % 5 == 2 ? " b.com" : "")).gate.entry(i % 5,
                    i), i);
        }
        for (int sort : new int[] {-1, 0, 1, 2, 3, 4, 5}) {
            Gate.due("sort " + sort + " with 40", gate.tape("a.com b.com").gate.entry(sort, 1), -3);
            Gate.due("sort " + sort + " of no NAME with 40", gate.tape("?").gate.entry(sort, 1), -3);
        }
        Gate.due("40 still", gate.gate.forget(), 40);
    }

    private static void forget() {
        Document.says("`int forget()`: All entries go: how many there were.");
        Gate gate = World.of("v=spf1 all");
        gate.suffix("co.uk");
        Gate.due("before", gate.gate.permission(), 2);
        Gate.due("how many", gate.gate.forget(), 13);
        Gate.due("none are left", gate.gate.forget(), 0);
        Gate.due("no TEXT", gate.gate.permission(), 0);
        Gate.due("no SUFFIX", gate.house("x.y.co.uk"), "co.uk");
        Gate.due("the first of new ones", gate.text("a.com", "v=spf1 a:here.com ~all"), 1);
        Gate.due("no ADDRESS", gate.gate.permission(), 4);
        gate.gate.forget();
        gate.text("a.com", "v=spf1 a:bad.com ~all");
        Gate.due("no TROUBLE", gate.gate.permission(), 4);
        gate.gate.forget();
        gate.text("a.com", "v=spf1 mx:mail.com ~all");
        gate.address("here.com", World.HERE);
        Gate.due("no EXCHANGE", gate.gate.permission(), 4);
        forgotten();
    }

    /** Where fewer entries are there anew than have gone, the next one of those is not found. */
    private static void forgotten() {
        Gate gate = new Gate();
        gate.text("q", "");
        gate.address("here.com", 7);
        gate.gate.forget();
        gate.text("a.com", "v=spf1 exists:here.com -all");
        gate.sender("x@a.com", 7);
        Gate.due("exists", gate.gate.permission(), 3);
        gate.gate.forget();
        gate.text("q", "");
        gate.text("q", "");
        gate.address("here.com", 7);
        gate.gate.forget();
        gate.text("a.com", "v=spf1 a:here.com -all");
        gate.address("here.com", 6);
        Gate.due("another address of here.com", gate.gate.permission(), 3);
        gate.gate.forget();
        gate.text("q", "");
        gate.address("q", 1);
        gate.address("q", 1);
        gate.exchange("mail.com", "here.com");
        gate.gate.forget();
        gate.text("a.com", "v=spf1 mx:mail.com -all");
        gate.address("here.com", 7);
        gate.exchange("mail.com", "q");
        Gate.due("another exchange of mail.com", gate.gate.permission(), 3);
        gate.gate.forget();
        gate.text("q", "");
        gate.text("a.com", "v=spf1 all");
        gate.gate.forget();
        gate.text("a.com", "v=spf1 -all");
        Gate.due("one TEXT of a.com", gate.gate.permission(), 3);
        gate.gate.forget();
        gate.message(Letter.sealed(""));
        gate.text("q", "");
        gate.text(Letter.KEY_NAME, Letter.KEY);
        gate.gate.forget();
        gate.text("q", "");
        Gate.due("the key", gate.gate.sealed(0, 5), 6);
        gate.gate.forget();
        gate.suffix("b.a");
        gate.gate.forget();
        Gate.due("the SUFFIX", gate.house("d.c.b.a"), "b.a");
    }

    private static void sender() {
        Document.says("`int sender(int address)`: THE SENDER is the address with the TAPE, LOCAL@DOMAIN: 0. REFUSED"
                + " if it is none (it stays).");
        Gate gate = new Gate();
        gate.text("a.com", "v=spf1 ip4:0.0.0.7 exists:%{l}.b.com -all");
        gate.text("c.com", "v=spf1 ~all");
        gate.address("y.b.com", 1);
        Gate.due("taken", gate.sender("x@a.com", 7), 0);
        Gate.due("by its address", gate.gate.permission(), 2);
        for (String wrong : new String[] {"", "y", "y@", "@c.com", "y@c..com", "Y@c.com", "y@c.com "}) {
            Gate.due("REFUSED: " + wrong, gate.sender(wrong, 8), -1);
            Gate.due("it stays after " + wrong, gate.gate.permission(), 2);
        }
        Gate.due("another address", gate.sender("x@a.com", 8), 0);
        Gate.due("not permitted", gate.gate.permission(), 3);
        Gate.due("another LOCAL", gate.sender("y@a.com", 8), 0);
        Gate.due("by its LOCAL", gate.gate.permission(), 2);
        Gate.due("another DOMAIN", gate.sender("y@c.com", 8), 0);
        Gate.due("by its DOMAIN", gate.gate.permission(), 4);
    }

    private static void permission() {
        Document.says("`int permission()`: PERMISSION: CHECK of the SENDER's DOMAIN; REFUSED without one.");
        Gate gate = new Gate();
        gate.text("a.com", "v=spf1 -all");
        Gate.due("without one", gate.gate.permission(), -1);
        gate.sender("x@a.com", 1);
        Gate.due("its DOMAIN", gate.gate.permission(), 3);
        Gate.due("again", gate.gate.permission(), 3);
        gate.sender("x@b.a.com", 1);
        Gate.due("not what it is UNDER", gate.gate.permission(), 0);
        // Each begins anew, whatever the one before has left.
        for (String term : new String[] {"a/33", "ip4:1.2.3.4/99", "mx/-", "-a:", "?x", "a/0", "-include:none.com",
            "exists:%"}) {
            Gate again = new Gate();
            again.text("b.com", "v=spf1 " + term);
            again.text("c.com", "v=spf1 all");
            again.sender("x@b.com", 1);
            again.gate.permission();
            again.sender("x@c.com", 1);
            Gate.due("behind " + term, again.gate.permission(), 2);
        }
    }

    private static void cost() {
        Document.says("`int cost(int what)`: How often the latest PERMISSION has COUNTED (what 0), how many were"
                + " VOID (1). REFUSED for others.");
        World.due("v=spf1 a:far.com mx a ~all", 4, 3, 2);
        Gate gate = World.of("v=spf1 a:far.com mx a ~all");
        Gate.due("before the first", gate.gate.cost(0) + gate.gate.cost(1), 0);
        gate.gate.permission();
        for (int what : new int[] {-1, 2, 3, MIN, MAX}) {
            Gate.due("cost(" + what + ")", gate.gate.cost(what), -1);
        }
        gate.sender("x@none.com", 1);
        Gate.due("a new SENDER is no PERMISSION", gate.gate.cost(0), 3);
        gate.gate.permission();
        Gate.due("the latest has COUNTED", gate.gate.cost(0), 0);
        Gate.due("the latest has VOID", gate.gate.cost(1), 0);
    }

    private static void message() {
        Document.says("`int message()`: The TAPE is THE MESSAGE: how many FIELDS; REFUSED if it is none (the"
                + " MESSAGE before stays).");
        Gate gate = new Gate();
        Gate.due("none before, and none", gate.message("x"), -1);
        Gate.due("none still", gate.gate.plainBody(false), -2);
        Gate.due("one FIELD", gate.message("a: b"), 1);
        Gate.due("three FIELDS", gate.message("a: 1\nb: 2\ndkim-signature: 3\n\nbody"), 3);
        for (String wrong : new String[] {"", "\n", "x", "a: 1\nb: 2\nx", "a:\n".repeat(21),
            "dkim-signature: x\n?: y"}) {
            Gate.due("REFUSED", gate.message(wrong), -1);
            Gate.due("SEALS stay", gate.gate.seals(), 1);
            Gate.due("FIELDS stay", gate.plainField(1, false), "b: 2");
            Gate.due("the BODY stays", gate.plainBody(false), "body\n");
        }
        gate.message("c: 4");
        Gate.due("no SEAL of the one before", gate.gate.seals(), 0);
        Gate.due("no FIELD of the one before", gate.gate.plainField(1, false), -2);
        Gate.due("no BODY of the one before", gate.plainBody(false), "\n");
    }

    private static void seals() {
        Document.says("`int seals()`: How many SEALS; 0 without a MESSAGE.");
        Gate gate = new Gate();
        Gate.due("without a MESSAGE", gate.gate.seals(), 0);
        for (int count = 0; count <= 19; count++) {
            gate.message("a: b\n" + "dkim-signature: x\n".repeat(count) + "\ndkim-signature: y");
            Gate.due("SEALS", gate.gate.seals(), count);
        }
    }

    private static void sealed() {
        Document.says("`int sealed(int k, int now)`: SEALED, of SEAL k by a NOW (0 at least; REFUSED else); NONE if"
                + " there is none.");
        Gate gate = new Gate();
        gate.text(Letter.KEY_NAME, Letter.KEY);
        for (int k : new int[] {0, 1, -1, MIN, MAX}) {
            Gate.due("without a MESSAGE", gate.gate.sealed(k, 0), -2);
            Gate.due("without a MESSAGE, NOW -1", gate.gate.sealed(k, -1), -1);
        }
        gate.message(Letter.sealed("x=7; "));
        for (int k : new int[] {1, -1, 20, MIN, MAX}) {
            Gate.due("SEAL " + k, gate.gate.sealed(k, 0), -2);
            Gate.due("SEAL " + k + ", NOW -1", gate.gate.sealed(k, -1), -1);
            Gate.due("SEAL " + k + ", NOW MIN", gate.gate.sealed(k, MIN), -1);
        }
        Gate.due("NOW -1", gate.gate.sealed(0, -1), -1);
        Gate.due("NOW 0", gate.gate.sealed(0, 0), 2);
        Gate.due("NOW 7", gate.gate.sealed(0, 7), 2);
        Gate.due("NOW 8", gate.gate.sealed(0, 8), 3);
        Gate.due("NOW MAX", gate.gate.sealed(0, MAX), 3);
    }

    private static void plainBody() {
        Document.says("`int plainBody(boolean relaxed)`: OUT becomes the BODY made PLAIN (relaxed or not): how many"
                + " bytes; NONE without a MESSAGE.");
        Gate gate = new Gate();
        gate.house("a.com");
        Gate.due("without a MESSAGE", gate.gate.plainBody(true), -2);
        Gate.due("without a MESSAGE, not relaxed", gate.gate.plainBody(false), -2);
        Gate.due("OUT stays", gate.out(), "a.com");
        gate.message("a: x\n\nb \t c \n\n");
        Gate.due("not relaxed, how many", gate.gate.plainBody(false), 7);
        Gate.due("not relaxed", gate.out(), "b \t c \n");
        Gate.due("relaxed, how many", gate.gate.plainBody(true), 4);
        Gate.due("relaxed", gate.out(), "b c\n");
        gate.message("a: x");
        Gate.due("nothing", gate.gate.plainBody(true), 0);
        Gate.due("OUT is empty", gate.gate.octet(-1), 0);
    }

    private static void plainField() {
        Document.says("`int plainField(int k, boolean relaxed)`: OUT becomes FIELD k made PLAIN: how many bytes;"
                + " NONE if there is none.");
        Gate gate = new Gate();
        gate.house("a.com");
        Gate.due("without a MESSAGE", gate.gate.plainField(0, false), -2);
        gate.message("A: x\nB:  y\n z \nC:");
        for (int k : new int[] {3, 4, 20, -1, MIN, MAX}) {
            Gate.due("FIELD " + k, gate.gate.plainField(k, false), -2);
            Gate.due("FIELD " + k + ", relaxed", gate.gate.plainField(k, true), -2);
        }
        Gate.due("OUT stays", gate.out(), "a.com");
        Gate.due("FIELD 1, how many", gate.gate.plainField(1, false), 9);
        Gate.due("FIELD 1", gate.out(), "B:  y\n z ");
        Gate.due("FIELD 1, relaxed, how many", gate.gate.plainField(1, true), 5);
        Gate.due("FIELD 1, relaxed", gate.out(), "b:y z");
        Gate.due("FIELD 0", gate.plainField(0, false), "A: x");
        Gate.due("FIELD 2", gate.plainField(2, true), "c:");
    }

    private static void house() {
        Document.says("`int house()`: OUT becomes the HOUSE of the NAME that the TAPE is: how many bytes; REFUSED"
                + " if it is none.");
        Gate gate = new Gate();
        Gate.due("how many", gate.tape("c.b.a").gate.house(), 3);
        Gate.due("the HOUSE", gate.out(), "b.a");
        for (String wrong : new String[] {"", ".", "a.", "A", "a b", "a.com ", Names.LONGEST + "a"}) {
            Gate.due("REFUSED: '" + wrong + "'", gate.tape(wrong).gate.house(), -1);
            Gate.due("OUT stays", gate.out(), "b.a");
        }
        gate.suffix("b.a");
        Gate.due("with a SUFFIX", gate.house("d.c.b.a"), "c.b.a");
        Gate.due("the longest", gate.house(Names.LONGEST), Names.LONGEST.substring(21));
    }

    private static void wish() {
        Document.says("`int wish(int now)`: WISH, by a NOW; NONE without a MESSAGE; REFUSED without a SENDER, or"
                + " for a NOW below 0, first.");
        Gate gate = new Gate();
        Gate.due("without both", gate.gate.wish(0), -1);
        gate.message("From: x@a.com");
        Gate.due("without a SENDER", gate.gate.wish(0), -1);
        gate = new Gate();
        gate.sender("x@b.com", 1);
        Gate.due("without a MESSAGE", gate.gate.wish(0), -2);
        Gate.due("without a MESSAGE, NOW MAX", gate.gate.wish(MAX), -2);
        Gate.due("without a MESSAGE, NOW -1", gate.gate.wish(-1), -1);
        Gate.due("without a MESSAGE, NOW MIN", gate.gate.wish(MIN), -1);
        gate.text("_dmarc.a.com", "v=DMARC1; p=reject");
        gate.text(Letter.KEY_NAME, Letter.KEY);
        gate.message(Letter.sealed("x=7; "));
        Gate.due("NOW -1", gate.gate.wish(-1), -1);
        Gate.due("NOW MIN", gate.gate.wish(MIN), -1);
        Gate.due("NOW 0", gate.gate.wish(0), 2);
        Gate.due("NOW 7", gate.gate.wish(7), 2);
        Gate.due("NOW 8", gate.gate.wish(8), 9);
        Gate.due("NOW MAX", gate.gate.wish(MAX), 9);
    }

    private static void digest() {
        Document.says("`int digest()`: OUT becomes the DIGEST of the TAPE: 32.");
        Gate gate = new Gate();
        String[] texts = {"", "abc", "abcdbcdecdefdefgefghfghighijhijkijkljklmklmnlmnomnopnopq"};
        String[] sums = {"e3b0c44298fc1c149afbf4c8996fb92427ae41e4649b934ca495991b7852b855",
            "ba7816bf8f01cfea414140de5dae2223b00361a396177a9cb410ff61f20015ad",
            "248d6a61d20638b8e5c026930c3e6039a33ce45964ff2167f6ecedd419db06c1"};
        for (int i = 0; i < texts.length; i++) {
            Gate.due("how many", gate.tape(texts[i]).gate.digest(), 32);
            StringBuilder hex = new StringBuilder();
            for (int k = 0; k < 32; k++) {
                hex.append(String.format("%02x", gate.gate.octet(k)));
            }
            Gate.due("the DIGEST of " + texts[i], hex.toString(), sums[i]);
        }
        for (int length : new int[] {1, 54, 55, 56, 57, 63, 64, 65, 119, 120, 127, 128, 2999, 3000}) {
            String text = "\u00ff\u0000x".repeat(1000).substring(0, length);
            byte[] due = Letter.digest(text);
            gate.tape(text).gate.digest();
            for (int k = 0; k < 32; k++) {
                Gate.due("byte " + k + " of the DIGEST of " + length, gate.gate.octet(k), due[k] & 255);
            }
        }
    }

    private static void octet() {
        Document.says("`int octet(int k)`: Byte k of OUT; for k -1 how many. NONE if there is none.");
        Gate gate = new Gate();
        for (int k : new int[] {0, 1, -2, MIN, MAX}) {
            Gate.due("octet(" + k + ") of none", gate.gate.octet(k), -2);
        }
        Gate.due("how many of none", gate.gate.octet(-1), 0);
        gate.message("a: x\n\n\u0000\u007f\u0080\u00ff");
        gate.gate.plainBody(false);
        int[] due = {0, 127, 128, 255, 10};
        for (int k = 0; k < due.length; k++) {
            Gate.due("octet(" + k + ")", gate.gate.octet(k), due[k]);
        }
        Gate.due("how many", gate.gate.octet(-1), 5);
        for (int k : new int[] {5, 6, -2, -3, MIN, MAX}) {
            Gate.due("octet(" + k + ") of five", gate.gate.octet(k), -2);
        }
    }
}
