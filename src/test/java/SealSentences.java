import java.math.BigInteger;
import java.util.Base64;

/** The sentences from A SEAL to PLAIN. */
final class SealSentences {
    private static final Signer SIGNER = Letter.SIGNER;
    private static final String FROM = Letter.FROM;
    private static final String BODY = Letter.BODY;
    private static final String KEY = Letter.KEY;
    private static final String OWN = Letter.own("", BODY);

    private SealSentences() {
    }

    static void ask() {
        seals();
        tags();
        well();
        list();
        plainness();
        numbers();
        base64();
        neutral();
        time();
        keyNames();
        keys();
        bodySums();
        listed();
        ownField();
        power();
        passOrFail();
        plainBodies();
        plainFields();
    }

    /** The FIELD, up to the value of b, is signed as it stands, behind the FIELD from. */
    private static void duePass(String what, String own) {
        dueSigned(what, FROM + "\n" + own, own, 2);
    }

    /** A SEAL with a b that signs the text. */
    private static void dueSigned(String what, String signed, String own, int want) {
        Gate.due(what, Letter.answer(Letter.with(own + SIGNER.signed(signed)), KEY), want);
    }

    /** The FIELD, with a b that signs nothing, is FAIL if it is WELL, else NEUTRAL. */
    private static void dueWell(String field, boolean well) {
        Gate.due(field, Letter.answer(Letter.with(field), KEY), well ? 3 : 1);
    }

    private static void seals() {
        Document.says("A SEAL: a FIELD dkim-signature, numbered from 0 as they stand:");
        String right = OWN + SIGNER.signed(FROM + "\n" + OWN);
        Gate gate = new Gate();
        gate.text(Letter.KEY_NAME, KEY);
        Gate.due("FIELDS", gate.message("dkim-signature: x\n" + FROM + "\n" + right + "\nto: b\nDKIM-SIGNATURE:\n\n"
                + BODY), 5);
        Gate.due("SEALS", gate.gate.seals(), 3);
        Gate.due("SEAL 0", gate.gate.sealed(0, 5), 1);
        Gate.due("SEAL 1", gate.gate.sealed(1, 5), 2);
        Gate.due("SEAL 2", gate.gate.sealed(2, 5), 1);
        Gate.due("SEAL 3", gate.gate.sealed(3, 5), -2);
        Gate.due("SEAL -1", gate.gate.sealed(-1, 5), -2);
    }

    private static void tags() {
        Document.says("its VALUE without WHITE and byte 10 is TAGS, at most 40, with ; between (one may be at the"
                + " end, too), each 1 to 8 small letters, =, and what is behind; two of the same letters: none.");
        String field = OWN + Letter.NO_SIGNATURE;
        dueWell(field, true);
        dueWell(field + ";", true);
        dueWell(field + " ;\t", true);
        dueWell(field + ";;", false);
        dueWell(field + "; ;", false);
        dueWell(field.replace("s=k;", "s=k;;"), false);
        dueWell(field.replace(": v=1", ": ;v=1"), false);
        dueWell(field.replace("v=1; a=rsa-sha256", "\n\tv = 1\n ; a=rsa-\n sha 256"), true);
        dueWell(field.replace("v=1;", "v=1; z=;"), true);
        dueWell(field.replace("v=1;", "v=1; abcdefgh=\u00ff==:/,;"), true);
        for (String wrong : new String[] {"z", "=", "=z", "abcdefghi=z", "Z=z", "z1=z", "z-=z", "z_z=z", "v=1",
            "v=2", "s=k"}) {
            dueWell(field.replace("v=1;", "v=1; " + wrong + ";"), false);
            dueWell(field + "; " + wrong, false);
        }
        dueWell(field + "; z=1; zz=1; y=1", true);
        dueWell(field + "; z=1; zz=1; z=1", false);
        dueWell(field + "; yza=1; yzb=1; xza=1", true);
        dueWell(field + "; yza=1; yzb=1; yza=1", false);
        dueWell(field + "; abcdefgh=1; abcdefgi=1; bbcdefgh=1", true);
        dueWell(field + "; abcdefgh=1; abcdefgh=2", false);
        // Seven TAGS are there without these.
        for (int more = 30; more <= 36; more++) {
            StringBuilder text = new StringBuilder(field);
            for (int i = 0; i < more; i++) {
                text.append(";z").append((char) ('a' + i / 26)).append((char) ('a' + i % 26)).append("=");
            }
            dueWell(text.toString(), more <= 33);
            dueWell(text + ";", more <= 33);
        }
    }

    private static void well() {
        Document.says("WELL: v is 1, a is rsa-sha256, d and s NAMES, bh and b are in BASE 64 of 32 and of 64 bytes;");
        duePass("all of them", OWN);
        String field = OWN + Letter.NO_SIGNATURE;
        for (String tag : new String[] {"v=1; ", "a=rsa-sha256; ", "d=a.com; ", "s=k; ", "h=from; "}) {
            dueWell(field.replace(tag, ""), false);
        }
        dueWell(field.replace("; b=" + Letter.NO_SIGNATURE, ""), false);
        dueWell(field.replace("bh=" + Letter.sum(BODY) + "; ", ""), false);
        for (String v : new String[] {"", "0", "2", "11", "01", "1.0"}) {
            dueWell(field.replace("v=1", "v=" + v), false);
        }
        for (String a : new String[] {"", "rsa-sha1", "rsa-sha256x", "RSA-SHA256", "rsa-sha25", "ed25519-sha256"}) {
            dueWell(field.replace("a=rsa-sha256", "a=" + a), false);
        }
        for (String wrong : new String[] {"", ".", "a.", "A", "a..b", "a@b", Names.LONGEST + "x", "a".repeat(21)}) {
            dueWell(field.replace("d=a.com", "d=" + wrong), false);
            dueWell(field.replace("s=k", "s=" + wrong), false);
        }
        // A NAME that has no key: BROKEN, and so WELL.
        for (String right : new String[] {"b", "0", "-", "_", "b.c", Names.LONGEST}) {
            Gate.due("d=" + right, Letter.answer(Letter.with(field.replace("d=a.com", "d=" + right)), KEY), 6);
            Gate.due("s=" + right, Letter.answer(Letter.with(field.replace("s=k", "s=" + right)), KEY), 6);
        }
        for (int size = 30; size <= 34; size++) {
            dueWell(field.replace(Letter.sum(BODY), Base64.getEncoder().encodeToString(new byte[size])), size == 32);
        }
        for (int size = 62; size <= 66; size++) {
            dueWell(OWN + Base64.getEncoder().encodeToString(new byte[size]), size == 64);
        }
    }

    private static void list() {
        Document.says("h names with : between (1 to 20 of letters, digits, -; from among them alike);");
        String field = OWN + Letter.NO_SIGNATURE;
        for (String right : new String[] {"from", "FROM", "to:From", "from:to", "from:from:from", "a:-:0:Z:from",
            "n".repeat(20) + ":from", "fr om", " from : to "}) {
            dueWell(field.replace("h=from", "h=" + right), true);
        }
        for (String wrong : new String[] {"", ":", "from:", ":from", "from::to", "to", "date", "xrom", "fxom", "frox",
            "fromm", "fro", "xfrom", "from,to", "from:a_b", "from:a.b", "n".repeat(21) + ":from", "from:"
            + "n".repeat(21), "from;to"}) {
            dueWell(field.replace("h=from", "h=" + wrong), false);
        }
    }

    private static void plainness() {
        Document.says("c, if there, simple or relaxed, then / and one of these or nothing (simple then); without it"
                + " both are simple;");
        String body = "a  b \n";
        String from = "From:  x@a.com ";
        String[] values = {"", "c=simple; ", "c=relaxed; ", "c=simple/simple; ", "c=simple/relaxed; ",
            "c=relaxed/simple; ", "c=relaxed/relaxed; ", ""};
        Gate gate = new Gate();
        gate.text(Letter.KEY_NAME, KEY);
        for (String c : values) {
            boolean fields = c.startsWith("c=relaxed");
            boolean bodies = c.endsWith("/relaxed; ");
            String own = Letter.own(c, bodies ? "a b\n" : body);
            String plain = fields ? "from:x@a.com\ndkim-signature:" + own.substring(16) : from + "\n" + own;
            String text = from + "\n" + own + SIGNER.signed(plain) + "\n\n" + body;
            Gate.due(c, Letter.answer(text, KEY), 2);
            gate.message(text);
            Gate.due(c + " behind the one before", gate.gate.sealed(0, 5), 2);
            Gate.due(c + " with another blank in From", Letter.answer(text.replace("com \n", "com\n"), KEY), fields
                    ? 2 : 3);
            Gate.due(c + " with another blank in the BODY", Letter.answer(text.replace("a  b", "a b"), KEY), bodies
                    ? 2 : 3);
        }
        for (String c : new String[] {"", "/", "/simple", "simple/", "relaxed/", "x", "simplex", "Simple",
            "relaxed/x", "x/relaxed", "simple/simple/simple", "simple,relaxed", "relaxed/relaxed/"}) {
            dueWell(Letter.own("c=" + c + "; ", BODY) + Letter.NO_SIGNATURE, false);
        }
    }

    private static void numbers() {
        Document.says("l, x, if there, digits, at most 9; others are passed.");
        for (String tag : new String[] {"l", "x"}) {
            for (String right : new String[] {"6", "06", "000000006"}) {
                duePass(tag + "=" + right, Letter.own(tag + "=" + right + "; ", BODY));
            }
            for (String wrong : new String[] {"", "-1", "+6", "6.0", "0x6", "six", "0000000006", "1000000000", "6,"}) {
                dueWell(Letter.own(tag + "=" + wrong + "; ", BODY) + Letter.NO_SIGNATURE, false);
            }
        }
        duePass("x=999999999", Letter.own("x=999999999; ", BODY));
        String first = OWN.replace("v=1;", "l=6; v=1;");
        duePass("l first of all", first);
        first = OWN.replace("v=1;", "l=5; v=1;");
        dueSigned("a smaller l first of all", FROM + "\n" + first, first, 3);
        first = OWN.replace("v=1;", "x=4; v=1;");
        dueSigned("a smaller x first of all", FROM + "\n" + first, first, 3);
        dueWell(Letter.own("l=999999999; ", BODY) + Letter.NO_SIGNATURE, true);
        for (String other : new String[] {"t=x; ", "i=@; ", "q=; ", "z=a:b|c:d; ", "abcdefgh=1; ", "ll=x; ",
            "xx=x; "}) {
            duePass("another: " + other, Letter.own(other, BODY));
        }
    }

    private static void base64() {
        Document.says("BASE 64: letters great and small, digits, + /, then as many = as make a number of fours;"
                + " what is over in the last is 0.");
        for (int c = 1; c < 256; c++) {
            boolean sign = c >= 'a' && c <= 'z' || c >= 'A' && c <= 'Z' || c >= '0' && c <= '9' || c == '+' || c == '/';
            if (c != 9 && c != 10 && c != 32) {
                dueWell(OWN + "A".repeat(40) + (char) c + "A".repeat(45) + "==", sign);
            }
        }
        String signs = "ABCDEFGHIJKLMNOPQRSTUVWXYZabcdefghijklmnopqrstuvwxyz0123456789+/";
        for (int i = 0; i < 64; i++) {
            // Of 64 bytes four bits are over in the last sign, of 32 bytes two.
            dueWell(OWN + "A".repeat(85) + signs.charAt(i) + "==", i % 16 == 0);
            dueWell(OWN.replace(Letter.sum(BODY), "A".repeat(42) + signs.charAt(i) + "=") + Letter.NO_SIGNATURE,
                    i % 4 == 0);
        }
        for (String wrong : new String[] {"A".repeat(86), "A".repeat(86) + "=", "A".repeat(86) + "===",
            "A".repeat(87) + "=",
            "A".repeat(88), "A".repeat(85) + "===", "=".repeat(88), "==" + "A".repeat(86), "A".repeat(85) + "=A=",
            "", "=="}) {
            dueWell(OWN + wrong, false);
        }
        // Each sign tells its own six bits: the sum of every body is found.
        for (int i = 0; i < 40; i++) {
            String body = "body " + i + "\n";
            String own = Letter.own("", body);
            String text = FROM + "\n" + own + SIGNER.signed(FROM + "\n" + own) + "\n\n" + body;
            Gate.due("the sum of " + body, Letter.answer(text, KEY), 2);
        }
    }

    private static void neutral() {
        Document.says("SEALED: not WELL, or of no FIELD from among h: NEUTRAL 1;");
        String right = OWN + SIGNER.signed(FROM + "\n" + OWN);
        Gate.due("WELL, with a FIELD from", Letter.answer(Letter.with(right), KEY), 2);
        Gate.due("not WELL", Letter.answer(Letter.with(right.replace("v=1", "v=2")), KEY), 1);
        String signed = OWN + SIGNER.signed(OWN);
        Gate.due("no FIELD from", Letter.answer(signed + "\n\n" + BODY, KEY), 1);
        Gate.due("no FIELD from, without a key", Letter.answer(signed + "\n\n" + BODY), 1);
        Gate.due("another FIELD", Letter.answer("Frommer: x@a.com\n" + signed + "\n\n" + BODY, KEY), 1);
        Gate.due("not WELL, without a key", Letter.answer(Letter.with("dkim-signature:")), 1);
        String old = Letter.own("v=1; x=1; ", BODY) + Letter.NO_SIGNATURE;
        Gate.due("not WELL, and NOW above x", Letter.answer(Letter.with(old), KEY), 1);
    }

    private static void time() {
        Document.says("x, and NOW is above it: FAIL 3;");
        String text = Letter.sealed("x=100; ");
        Gate.due("NOW 0", Letter.answer(0, text, KEY), 2);
        Gate.due("NOW 99", Letter.answer(99, text, KEY), 2);
        Gate.due("NOW 100", Letter.answer(100, text, KEY), 2);
        Gate.due("NOW 101", Letter.answer(101, text, KEY), 3);
        Gate.due("the greatest NOW", Letter.answer(Integer.MAX_VALUE, text, KEY), 3);
        Gate.due("above x, without a key", Letter.answer(101, text), 3);
        Gate.due("not above x, without a key", Letter.answer(100, text), 6);
        Gate.due("without x", Letter.answer(Integer.MAX_VALUE, Letter.sealed(""), KEY), 2);
        Gate.due("x is 0, and NOW", Letter.answer(0, Letter.sealed("x=0; "), KEY), 2);
        Gate.due("x is 0, and NOW 1", Letter.answer(1, Letter.sealed("x=0; "), KEY), 3);
    }

    private static void keyNames() {
        Document.says("the TEXTS of s._domainkey.d (no NAME: none): TROUBLE 5; none: BROKEN 6;");
        String text = Letter.sealed("");
        Gate.due("its TEXT", Letter.answer(text, KEY), 2);
        Gate.due("none", Letter.answer(text), 6);
        Gate gate = new Gate();
        for (String other : new String[] {"k.a.com", "a.com", "_domainkey.a.com", "k._domainkey", "k._domainkey.com",
            "j._domainkey.a.com", "a.com._domainkey.k"}) {
            gate.text(other, KEY);
            gate.trouble(other);
        }
        gate.message(text);
        Gate.due("TEXTS and TROUBLE of other NAMES", gate.gate.sealed(0, 5), 6);
        gate.address(Letter.KEY_NAME, 1);
        Gate.due("an ADDRESS", gate.gate.sealed(0, 5), 6);
        gate.text(Letter.KEY_NAME, KEY);
        Gate.due("its TEXT among others", gate.gate.sealed(0, 5), 2);
        gate.trouble(Letter.KEY_NAME);
        Gate.due("TROUBLE", gate.gate.sealed(0, 5), 5);
        // s, ._domainkey. and d have 12 bytes more than s and d.
        for (int length = 46; length <= 50; length++) {
            String domain = Names.ofLength(length - 1);
            String own = OWN.replace("d=a.com", "d=" + domain);
            gate = new Gate();
            gate.text(("k._domainkey." + domain).substring(0, Math.min(60, length + 12)), KEY);
            gate.message(Letter.with(own + SIGNER.signed(FROM + "\n" + own)));
            Gate.due("a NAME of " + (length + 12), gate.gate.sealed(0, 5), length <= 48 ? 2 : 6);
        }
    }

    private static void keys() {
        Document.says("of the first: TAGS, without WHITE and byte 10, p in BASE 64 of 64 bytes, the highest bit 1,"
                + " the lowest, too, else BROKEN (v, if there, DKIM1; k, if there, rsa).");
        String text = Letter.sealed("");
        for (String right : new String[] {KEY, KEY + ";", "v=DKIM1; k=rsa; " + KEY, KEY + "; k=rsa; v=DKIM1",
                "k=rsa;" + KEY,
            "v = DKIM1 ;\n\t" + KEY.substring(0, 30) + " \n" + KEY.substring(30), KEY + "; n=x; t=s; h=sha1"}) {
            Gate.due(right, Letter.answer(text, right), 2);
            Gate.due(right + ", and another behind", Letter.answer(text, right, "x"), 2);
        }
        for (String wrong : new String[] {"", "p=", "x", KEY + ";;", "v=DKIM2; " + KEY, "v=; " + KEY, "v=dkim1; " + KEY,
            "k=; " + KEY, "k=RSA; " + KEY, "k=ed25519; " + KEY, KEY + "; " + KEY, "P" + KEY.substring(1), "p=" + KEY,
            KEY + "=",
            KEY.substring(0, KEY.length() - 1), KEY + "; x", "p=" + Letter.sum("")}) {
            Gate.due(wrong, Letter.answer(text, wrong), 6);
            Gate.due(wrong + ", and the right one behind", Letter.answer(text, wrong, KEY), 6);
        }
        BigInteger p = SIGNER.modulus;
        Gate.due("the highest bit 0", Letter.answer(text, "p=" + Signer.packed(p.clearBit(511))), 6);
        Gate.due("the lowest bit 0", Letter.answer(text, "p=" + Signer.packed(p.clearBit(0))), 6);
        BigInteger below = BigInteger.ONE.shiftLeft(511).subtract(BigInteger.ONE);
        Gate.due("all bits but the highest", Letter.answer(text, "p=" + Signer.packed(below)), 6);
        Gate.due("all bits", Letter.answer(text, "p=" + Signer.packed(below.setBit(511))), 3);
        Gate.due("another bit", Letter.answer(text, "p=" + Signer.packed(p.flipBit(510))), 3);
        Gate.due("another low bit", Letter.answer(text, "p=" + Signer.packed(p.flipBit(1))), 3);
        Gate.due("BROKEN before the BODY is looked at", Letter.answer(text.replace("hello", "hallo"), "x"), 6);
    }

    /** A SEAL with these TAGS more and the sum of the text, of a MESSAGE with the BODY. */
    private static void dueBody(String what, String more, String summed, String body, int want) {
        String own = Letter.own(more, summed);
        Gate.due(what, Letter.answer(FROM + "\n" + own + SIGNER.signed(FROM + "\n" + own) + "\n\n" + body, KEY), want);
    }

    private static void bodySums() {
        Document.says("The DIGEST (SHA-256) of the BODY made PLAIN, of l only the first so many bytes (less of"
                + " them: FAIL), is bh, else FAIL.");
        dueBody("the BODY", "", "hello\n", "hello\n", 2);
        dueBody("made PLAIN", "", "hello\n", "hello\n\n\n", 2);
        dueBody("made PLAIN, without the last byte 10", "", "hello\n", "hello", 2);
        dueBody("another", "", "hello\n", "Hello\n", 3);
        dueBody("nothing more", "", "hello\n", "hello\nx", 3);
        dueBody("an empty one", "", "\n", "", 2);
        dueBody("an empty one, relaxed", "c=simple/relaxed; ", "", "", 2);
        dueBody("l is 0", "l=0; ", "", "hello\n", 2);
        dueBody("l is 5", "l=5; ", "hello", "hello\n", 2);
        dueBody("l is 5 of more", "l=5; ", "hello", "hello, and more\n", 2);
        dueBody("l is 5 of another", "l=5; ", "hello", "hellp\n", 3);
        dueBody("l is all", "l=6; ", "hello\n", "hello\n", 2);
        dueBody("l is more", "l=7; ", "hello\n", "hello\n", 3);
        dueBody("l counts what was made PLAIN", "l=7; ", "hello\n\n", "hello\n\n\n", 3);
        dueBody("l counts what was made PLAIN, with its byte 10", "l=6; ", "hello\n", "hello", 2);
        dueBody("l counts the one blank", "c=simple/relaxed; l=3; ", "a b", "a \t b\n", 2);
        for (int length = 53; length <= 66; length++) {
            dueBody("a BODY of " + length, "", "x".repeat(length - 1) + "\n", "x".repeat(length - 1), 2);
        }
    }

    private static void dueListed(String what, String list, String fields, String signedFields, int want) {
        String own = OWN.replace("h=from", "h=" + list);
        String text = fields + own + SIGNER.signed(signedFields + own) + "\n\n" + BODY;
        Gate.due(what, Letter.answer(text, KEY), want);
    }

    private static void listed() {
        Document.says("The DIGEST g of the FIELDS of h made PLAIN, each time the last one with the name that was"
                + " not taken (none: nothing), each with byte 10 behind;");
        String from = FROM + "\n";
        dueListed("one", "from", from, from, 2);
        dueListed("in the order of h", "to:from", from + "To: b\n", "To: b\n" + from, 2);
        dueListed("not in their own order", "to:from", from + "To: b\n", from + "To: b\n", 3);
        dueListed("the last one", "from:to", "To: 1\nTO: 2\n" + from, from + "TO: 2\n", 2);
        dueListed("not the first one", "from:to", "To: 1\nTO: 2\n" + from, from + "To: 1\n", 3);
        dueListed("then the one before", "from:to:to", "To: 1\nTo: 2\n" + from, from + "To: 2\nTo: 1\n", 2);
        dueListed("then nothing", "from:to:to:to", "To: 1\nTo: 2\n" + from, from + "To: 2\nTo: 1\n", 2);
        dueListed("none at all", "cc:from:cc", from, from, 2);
        dueListed("from is taken once", "from:from", from, from, 2);
        dueListed("two of from", "from:from", from + "From: y\n", "From: y\n" + from, 2);
        dueListed("lines behind", "from:to", from + "To: b\n c\n\td\n", from + "To: b\n c\n\td\n", 2);
        dueListed("a name that is nearly so", "from:to:cc", from + "tp: b\nuo: b\nc: d\nccc: d\n", from, 2);
        String both = OWN.replace("h=from", "h=to:from:to");
        String behind = both + SIGNER.signed("To: 2\n" + from + "To: 1\n" + both);
        Gate.due("FIELDS behind the SEAL", Letter.answer("To: 1\n" + behind + "\n" + from + "To: 2\n\n" + BODY, KEY),
                2);
        dueListed("byte 10 behind each", "from:to", from + "To: b\n", from + "To: b", 3);
        String own = OWN.replace("h=from", "c=relaxed; h=to:from");
        String plain = "to:b c\nfrom:x@a.com\ndkim-signature:" + own.substring(16);
        String text = FROM + "\nTO:\n  b\n\t c \n" + own + SIGNER.signed(plain) + "\n\n" + BODY;
        Gate.due("made PLAIN, relaxed", Letter.answer(text, KEY), 2);
    }

    private static void ownField() {
        Document.says("then the SEAL's own FIELD made PLAIN with all that is b's value left out (from behind b= to"
                + " before ; or the end), without byte 10.");
        duePass("b at the end", OWN);
        dueSigned("byte 10 behind", FROM + "\n" + OWN + "\n", OWN, 3);
        String b = SIGNER.signed(FROM + "\n" + OWN);
        String spread = b.substring(0, 20) + "\n  " + b.substring(20, 50) + " " + b.substring(50) + " ";
        Gate.due("WHITE and byte 10 in the value go", Letter.answer(Letter.with(OWN + spread), KEY), 2);
        String[][] fields = {
            {"DKIM-Signature:b=", ";v=1; a=rsa-sha256; d=a.com; s=k; h=from; bh=" + Letter.sum(BODY)},
            {"DKIM-Signature: b=", "; v=1; a=rsa-sha256; d=a.com; s=k; h=from; bh=" + Letter.sum(BODY)},
            {"DKIM-Signature: v=1; a=rsa-sha256; b=", "; d=a.com; s=k; h=from; bh=" + Letter.sum(BODY) + ";"},
            {"DKIM-Signature: v=1; a=rsa-sha256;\n b\t=", "; d=a.com; s=k; h=from;\n\tbh=" + Letter.sum(BODY)},
            {"dkim-SIGNATURE:bh=" + Letter.sum(BODY) + ";z=b=c;a=rsa-sha256;d=a.com;s=k;h=from;v=1;b=", ";"}};
        for (String[] field : fields) {
            String signed = FROM + "\n" + field[0] + field[1];
            String text = Letter.with(field[0] + SIGNER.signed(signed) + field[1]);
            Gate.due(field[0] + ".." + field[1], Letter.answer(text, KEY), 2);
            text = Letter.with(field[0] + SIGNER.signed(signed) + "\n " + field[1]);
            Gate.due("WHITE before the ;", Letter.answer(text, KEY), 2);
        }
        String relaxed = "DKIM-Signature:  c=relaxed;  v=1; a=rsa-sha256; d=a.com;\n\ts=k; h=from; bh="
                + Letter.sum(BODY) + ";\n  b =";
        String plain = "from:x@a.com\ndkim-signature:c=relaxed; v=1; a=rsa-sha256; d=a.com; s=k; h=from; bh="
                + Letter.sum(BODY)
                + "; b =";
        dueSigned("relaxed", plain, relaxed, 2);
        Gate.due("relaxed, another TAG behind",
                Letter.answer(Letter.with(relaxed + " " + SIGNER.signed(plain + "; q=1") + " ;\t q=1 "), KEY), 2);
        String text = Letter.with(OWN + b);
        Gate.due("another sign in its own FIELD", Letter.answer(text.replace("; s=k", ";  s=k"), KEY), 3);
        Gate.due("another name of it", Letter.answer(text.replace("DKIM-", "dkim-"), KEY), 3);
    }

    /** The number whose bytes are the sign, a 1, so many times 255, a 0, the info and the sum. */
    private static BigInteger numberOf(int first, int second, int times, int[] info, byte[] sum) {
        byte[] bytes = new byte[64];
        int at = 64 - sum.length - info.length - 1 - times - 2;
        bytes[at] = (byte) first;
        bytes[at + 1] = (byte) second;
        for (int i = 0; i < times; i++) {
            bytes[at + 2 + i] = (byte) 255;
        }
        for (int i = 0; i < info.length; i++) {
            bytes[at + 3 + times + i] = (byte) info[i];
        }
        System.arraycopy(sum, 0, bytes, 64 - sum.length, sum.length);
        return new BigInteger(1, bytes);
    }

    private static void duePower(String what, BigInteger number, int want) {
        Gate.due(what, Letter.answer(Letter.with(OWN + SIGNER.sign(number)), KEY), want);
    }

    private static void power() {
        Document.says("b, as a number, the highest byte first, to the 65537th power, by the remainder of p, is:"
                + " byte 0, 1, 10 times 255, 0, the bytes 48 49 48 13 6 9 96 134 72 1 101 3 4 2 1 5 0 4 32, g.");
        int[] info = {48, 49, 48, 13, 6, 9, 96, 134, 72, 1, 101, 3, 4, 2, 1, 5, 0, 4, 32};
        byte[] g = Letter.digest(FROM + "\n" + OWN);
        BigInteger right = numberOf(0, 1, 10, info, g);
        duePower("the number", right, 2);
        for (int bit = 0; bit < 505; bit++) {
            duePower("bit " + bit + " another", right.flipBit(bit), 3);
        }
        duePower("2 for 1", numberOf(0, 2, 10, info, g), 3);
        duePower("9 times 255", numberOf(0, 1, 9, info, g), 3);
        duePower("another sum", numberOf(0, 1, 10, info, Letter.digest("x")), 3);
        duePower("0", BigInteger.ZERO, 3);
        duePower("1", BigInteger.ONE, 3);
        Gate.due("b is p", Letter.answer(Letter.with(OWN + SIGNER.key()), KEY), 3);
        Gate.due("b is p less 1", Letter.answer(Letter.with(OWN
                + Signer.packed(SIGNER.modulus.subtract(BigInteger.ONE))), KEY), 3);
        Gate.due("the greatest b", Letter.answer(Letter.with(OWN + "/".repeat(85) + "w=="), KEY), 3);
        for (int number = 40; number < 60; number++) {
            Signer other = new Signer(number);
            String text = Letter.with(OWN + other.signed(FROM + "\n" + OWN));
            Gate.due("key " + number, Letter.answer(text, "p=" + other.key()), 2);
            Gate.due("key " + number + " is not the first", Letter.answer(text, KEY), 3);
        }
    }

    private static void passOrFail() {
        Document.says("Then PASS 2, else FAIL.");
        Gate.due("right", Letter.answer(Letter.sealed(""), KEY), 2);
        Gate.due("wrong", Letter.answer(Letter.with(OWN + Letter.NO_SIGNATURE), KEY), 3);
        Gate.due("another From", Letter.answer(Letter.sealed("").replace("x@a", "y@a"), KEY), 3);
    }

    private static void dueBodies(String body, String simple, String relaxed) {
        Gate gate = new Gate();
        gate.message("a: x\n\n" + body);
        Gate.due("simple of '" + body + "'", gate.plainBody(false), simple);
        Gate.due("relaxed of '" + body + "'", gate.plainBody(true), relaxed);
    }

    private static void plainBodies() {
        Document.says("PLAIN: BODY: lines at the end that are empty go (relaxed: WHITE at the ends of lines goes"
                + " first, and WHITE within is one blank each);");
        dueBodies("a\n", "a\n", "a\n");
        dueBodies("a\n\n", "a\n", "a\n");
        dueBodies("a\n\n\n\n", "a\n", "a\n");
        dueBodies("\n\na\n\nb\n\n", "\n\na\n\nb\n", "\n\na\n\nb\n");
        dueBodies("a\n \n", "a\n \n", "a\n");
        dueBodies("a\n\n\t \n\n", "a\n\n\t \n", "a\n");
        dueBodies("a \t\nb\t\n \nc  \n", "a \t\nb\t\n \nc  \n", "a\nb\n\nc\n");
        dueBodies("a b\tc  d\t\te \t f\n", "a b\tc  d\t\te \t f\n", "a b c d e f\n");
        dueBodies("  a\n\tb\n", "  a\n\tb\n", " a\n b\n");
        dueBodies("a\r\n\r\n", "a\r\n\r\n", "a\r\n\r\n");
        Document.says("one that is not empty then ends with byte 10 (simple: an empty one is byte 10; relaxed:"
                + " nothing).");
        dueBodies("a", "a\n", "a\n");
        dueBodies("a\nb", "a\nb\n", "a\nb\n");
        dueBodies("a ", "a \n", "a\n");
        dueBodies("", "\n", "");
        dueBodies("\n", "\n", "");
        dueBodies("\n\n\n", "\n", "");
        dueBodies(" ", " \n", "");
        dueBodies(" \n\t\n", " \n\t\n", "");
        Gate gate = new Gate();
        gate.message("a: x");
        Gate.due("a BODY that is missing, simple", gate.plainBody(false), "\n");
        Gate.due("a BODY that is missing, relaxed", gate.plainBody(true), "");
    }

    private static void dueFields(String field, String relaxed) {
        Gate gate = new Gate();
        gate.message("x:\n" + field + "\ny:\n\nz");
        Gate.due("simple of '" + field + "'", gate.plainField(1, false), field);
        Gate.due("relaxed of '" + field + "'", gate.plainField(1, true), relaxed);
        gate.message(field);
        Gate.due("simple of '" + field + "' alone", gate.plainField(0, false), field);
        Gate.due("relaxed of '" + field + "' alone", gate.plainField(0, true), relaxed);
    }

    private static void plainFields() {
        Document.says("FIELDS: simple: as they are, without the last byte 10;");
        dueFields("A:", "a:");
        dueFields("A: b", "a:b");
        dueFields("A:\n b\n\t", "a:b");
        Document.says("relaxed: the name with small letters, \":\", the VALUE with its bytes 10 left out, WHITE one"
                + " blank each, none at its beginning and end.");
        dueFields("AbC-09Z: AbC-09Z", "abc-09z:AbC-09Z");
        dueFields("A: \t b\t \tc  d \t", "a:b c d");
        dueFields("A: b\n c\n\td\n \n  e\n ", "a:b c d e");
        dueFields("A: \t\n \n\t", "a:");
        dueFields("A::b : c", "a::b : c");
        dueFields("A:\u0000\u00ff\u0080 \r", "a:\u0000\u00ff\u0080 \r");
    }
}
