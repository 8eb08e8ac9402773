import java.math.BigInteger;
import java.util.Arrays;
import java.util.Base64;

/** The boundary cases of promise 11 (sealed). */
public final class SealEdgesTest {
    private static final int MIN = Integer.MIN_VALUE;
    private static final int MAX = Integer.MAX_VALUE;
    private static final Signer SIGNER = new Signer(21);
    private static final String FROM = "From: x@a.com";
    private static final String BODY = "hello\n";
    private static final String SUM = Signer.bodySum(BODY, false, -1);
    private static final String RIGHT = "DKIM-Signature: v=1; a=rsa-sha256; d=a.com; s=k; h=from; bh=" + SUM + "; b=B!";
    /** A value of b that is WELL, but signs nothing. */
    private static final String NO_SIGNATURE = "A".repeat(86) + "==";

    public static void main(String[] args) {
        sealK();
        nowBelowZero();
        fortyTags();
        semicolonAtTheEnd();
        lettersOfTags();
        sameLetters();
        versionAndWay();
        names();
        sumOf32Bytes();
        signatureOf64Bytes();
        signsOfBase64();
        overIsZero();
        namesInList();
        fromInList();
        plainness();
        nineDigits();
        nowAboveX();
        noFrom();
        keyName();
        noneOrTheFirst();
        keyOf64Bytes();
        highestAndLowestBit();
        tagsOfTheKey();
        lengthOfBody();
        notTaken();
        namesOfFields();
        tagsInAnyOrder();
        eachSealBeginsAnew();
        valueOfBLeftOut();
        remainder();
        everyByteOfThePower();
        longest();
        Gate.finish("SealEdgesTest");
    }

    private static int sealed(String message, int now, String... keys) {
        Gate gate = new Gate();
        for (String key : keys) {
            gate.text("k._domainkey.a.com", key);
        }
        gate.message(message);
        return gate.gate.sealed(0, now);
    }

    private static int sealed(String message, int now) {
        return sealed(message, now, "p=" + SIGNER.key());
    }

    /** The FIELD, sealed by its own rules, is PASS. */
    private static void duePass(String what, String field) {
        Gate.due(what, sealed(SIGNER.message(BODY, FROM, field), 5), 2);
    }

    /** The FIELD, with a b that signs nothing, is FAIL if it is WELL, NEUTRAL if not. */
    private static void dueWell(String what, String field, boolean well) {
        Gate.due(what, sealed(FROM + "\n" + field.replace("B!", NO_SIGNATURE) + "\n\n" + BODY, 5), well ? 3 : 1);
    }

    private static void sealK() {
        Gate.sentence("sealed: NONE if there is none");
        Gate gate = new Gate();
        Gate.due("SEAL 0 without a MESSAGE", gate.gate.sealed(0, 0), -2);
        gate.message(FROM);
        Gate.due("SEAL 0 of none", gate.gate.sealed(0, 0), -2);
        gate.text("k._domainkey.a.com", "p=" + SIGNER.key());
        for (int count : new int[] {1, 2, 19}) {
            String[] fields = new String[count + 1];
            Arrays.fill(fields, "dkim-signature: x");
            fields[0] = FROM;
            fields[count] = RIGHT;
            gate.message(SIGNER.message(BODY, fields));
            Gate.due("SEALS", gate.gate.seals(), count);
            Gate.due("the last of " + count, gate.gate.sealed(count - 1, 0), 2);
            Gate.due("SEAL 0 of " + count, gate.gate.sealed(0, 0), count == 1 ? 2 : 1);
            for (int k : new int[] {count, count + 1, 20, -1, -2, MIN, MAX}) {
                Gate.due("SEAL " + k + " of " + count, gate.gate.sealed(k, 0), -2);
            }
        }
    }

    private static void nowBelowZero() {
        Gate.sentence("sealed: by a NOW (0 at least; REFUSED else)");
        Gate gate = new Gate();
        Gate.due("-1 without a MESSAGE", gate.gate.sealed(0, -1), -1);
        gate.text("k._domainkey.a.com", "p=" + SIGNER.key());
        gate.message(SIGNER.message(BODY, FROM, RIGHT));
        for (int now : new int[] {0, 1, MAX}) {
            Gate.due("NOW " + now, gate.gate.sealed(0, now), 2);
            Gate.due("NOW " + now + ", no SEAL", gate.gate.sealed(1, now), -2);
        }
        for (int now : new int[] {-1, -2, MIN}) {
            Gate.due("NOW " + now, gate.gate.sealed(0, now), -1);
            Gate.due("NOW " + now + ", no SEAL", gate.gate.sealed(1, now), -1);
        }
    }

    /** So many TAGS with ; behind each. */
    private static String tags(int count) {
        StringBuilder tags = new StringBuilder();
        for (int i = 0; i < count; i++) {
            tags.append((char) ('a' + i / 26)).append((char) ('a' + i % 26)).append("z=1;");
        }
        return tags.toString();
    }

    private static void fortyTags() {
        Gate.sentence("A SEAL: TAGS, at most 40");
        for (int count = 38; count <= 42; count++) {
            String field = RIGHT.replace("v=1;", tags(count - 7) + "v=1;");
            dueWell(count + " TAGS", field, count <= 40);
            dueWell(count + " TAGS and ;", field + ";", count <= 40);
            dueWell(count + " TAGS, the others behind", RIGHT + ";" + tags(count - 7), count <= 40);
        }
        duePass("40 TAGS", RIGHT.replace("v=1;", tags(33) + "v=1;"));
    }

    private static void semicolonAtTheEnd() {
        Gate.sentence("TAGS: with ; between (one may be at the end, too)");
        duePass("none", RIGHT);
        duePass("one", RIGHT + ";");
        duePass("one and WHITE", RIGHT + " ; ");
        dueWell("two", RIGHT + ";;", false);
        dueWell("two with WHITE between", RIGHT + "; ;", false);
        dueWell("one at the beginning", RIGHT.replace("v=1", ";v=1"), false);
        dueWell("two between", RIGHT.replace("s=k;", "s=k;;"), false);
        dueWell("none between", RIGHT.replace("s=k;", "s=k"), false);
        duePass("without WHITE", RIGHT.replace(" ", ""));
        duePass("without WHITE, relaxed", RIGHT.replace("v=1;", "v=1;c=relaxed;").replace(" ", ""));
        dueWell("nothing", "DKIM-Signature:", false);
        dueWell("; alone", "DKIM-Signature: ;", false);
    }

    private static void lettersOfTags() {
        Gate.sentence("TAGS: each 1 to 8 small letters, =, and what is behind");
        for (int length = 0; length <= 10; length++) {
            dueWell(length + " letters", RIGHT + ";" + "z".repeat(length) + "=1", length >= 1 && length <= 8);
            dueWell(length + " letters, nothing behind", RIGHT + ";" + "z".repeat(length) + "=", length >= 1 && length <= 8);
        }
        for (int c = 0; c < 256; c++) {
            boolean letter = c >= 'a' && c <= 'z';
            boolean gone = c == 32 || c == 9;
            // Of "y=z=1" the letters are y, and what is behind is z=1; byte 10 ends the FIELD here.
            if (c != 10) {
                dueWell("byte " + c, RIGHT + ";y" + (char) c + "z=1", letter || gone || c == '=');
                // A second ; makes of what is behind another TAG.
                dueWell("byte " + c + " behind", RIGHT + ";yz=1" + (char) c, true);
            }
        }
        dueWell("no =", RIGHT + ";z", false);
    }

    private static void sameLetters() {
        Gate.sentence("TAGS: two of the same letters: none");
        dueWell("two others", RIGHT + ";y=1;z=1", true);
        dueWell("the same", RIGHT + ";z=1;z=1", false);
        dueWell("the same, of other values", RIGHT + ";z=1;y=1;z=2", false);
        dueWell("one begins with the other", RIGHT + ";z=1;zz=1", true);
        dueWell("the first and the last", RIGHT + ";v=1", false);
        dueWell("8 the same", RIGHT + ";abcdefgh=1;abcdefgh=1", false);
        dueWell("7 of 8 the same", RIGHT + ";abcdefgh=1;abcdefgi=1", true);
    }

    private static void versionAndWay() {
        Gate.sentence("WELL: v is 1, a is rsa-sha256");
        duePass("both", RIGHT);
        for (String v : new String[] {"", "0", "2", "11", "01", "1.0", "1,"}) {
            dueWell("v=" + v, RIGHT.replace("v=1", "v=" + v), false);
        }
        for (String a : new String[] {"", "rsa-sha25", "rsa-sha2566", "rsa-sha1", "RSA-SHA256", "xrsa-sha256", "ed25519-sha256"}) {
            dueWell("a=" + a, RIGHT.replace("rsa-sha256", a), false);
        }
        dueWell("no v", RIGHT.replace("v=1; ", ""), false);
        dueWell("no a", RIGHT.replace("a=rsa-sha256; ", ""), false);
    }

    private static void names() {
        Gate.sentence("WELL: d and s NAMES");
        for (String tag : new String[] {"d=a.com", "s=k"}) {
            for (String name : Names.RIGHT) {
                String field = RIGHT.replace(tag, tag.substring(0, 2) + name).replace("B!", NO_SIGNATURE);
                Gate.due(tag + " as " + name, sealed(FROM + "\n" + field + "\n\n" + BODY, 5), 6);
            }
            for (String name : Names.WRONG) {
                dueWell(tag + " as " + name, RIGHT.replace(tag, tag.substring(0, 2) + name), false);
            }
        }
    }

    private static String packed(int size) {
        return Base64.getEncoder().encodeToString(new byte[size]);
    }

    private static void sumOf32Bytes() {
        Gate.sentence("WELL: bh in BASE 64 of 32 bytes");
        for (int size : new int[] {0, 1, 29, 30, 31, 32, 33, 34, 35, 64}) {
            dueWell("of " + size, RIGHT.replace(SUM, packed(size)), size == 32);
        }
        dueWell("without its =", RIGHT.replace(SUM, packed(32).replace("=", "")), false);
        dueWell("with one = more", RIGHT.replace(SUM, packed(32) + "="), false);
        dueWell("missing", RIGHT.replace("bh=" + SUM + "; ", ""), false);
    }

    private static void signatureOf64Bytes() {
        Gate.sentence("WELL: b in BASE 64 of 64 bytes");
        for (int size : new int[] {0, 1, 32, 61, 62, 63, 64, 65, 66, 67, 128}) {
            dueWell("of " + size, RIGHT.replace("B!", packed(size)), size == 64);
        }
        dueWell("without its =", RIGHT.replace("B!", "A".repeat(86)), false);
        dueWell("with one = less", RIGHT.replace("B!", "A".repeat(86) + "="), false);
        dueWell("with one = more", RIGHT.replace("B!", "A".repeat(86) + "==="), false);
        dueWell("missing", RIGHT.replace("; b=B!", ""), false);
    }

    private static void signsOfBase64() {
        Gate.sentence("BASE 64: letters great and small, digits, + /, then as many = as make a number of fours");
        String signs = "ABCDEFGHIJKLMNOPQRSTUVWXYZabcdefghijklmnopqrstuvwxyz0123456789+/";
        for (int c = 0; c < 256; c++) {
            if (c == 10) {
                continue;
            }
            for (int place : new int[] {0, 40, 84}) {
                String b = "A".repeat(place) + (char) c + "A".repeat(85 - place) + "==";
                dueWell("byte " + c + " at " + place, RIGHT.replace("B!", b), signs.indexOf(c) >= 0);
            }
        }
    }

    private static void overIsZero() {
        Gate.sentence("BASE 64: what is over in the last is 0");
        String signs = "ABCDEFGHIJKLMNOPQRSTUVWXYZabcdefghijklmnopqrstuvwxyz0123456789+/";
        for (int i = 0; i < 64; i++) {
            dueWell("of 64 bytes, " + i, RIGHT.replace("B!", "A".repeat(85) + signs.charAt(i) + "=="), i % 16 == 0);
            dueWell("of 32 bytes, " + i, RIGHT.replace(SUM, "A".repeat(42) + signs.charAt(i) + "="), i % 4 == 0);
        }
    }

    private static void namesInList() {
        Gate.sentence("WELL: h names with : between (1 to 20 of letters, digits, -)");
        for (int length = 0; length <= 22; length++) {
            boolean well = length >= 1 && length <= 20;
            dueWell("a last name of " + length, RIGHT.replace("h=from", "h=from:" + "x".repeat(length)), well);
            dueWell("a first name of " + length, RIGHT.replace("h=from", "h=" + "x".repeat(length) + ":from"), well);
            dueWell("a middle name of " + length, RIGHT.replace("h=from", "h=from:" + "x".repeat(length) + ":to"), well);
        }
        for (int c = 0; c < 256; c++) {
            boolean sign = c < 128 && (Character.isLetterOrDigit(c) || c == '-' || c == ':' || c == 32 || c == 9);
            if (c != 10) {
                dueWell("byte " + c, RIGHT.replace("h=from", "h=from:x" + (char) c + "y"), sign);
            }
        }
        duePass("21 names", RIGHT.replace("h=from", "h=from" + ":to".repeat(20)));
        duePass("200 names", RIGHT.replace("h=from", "h=from" + ":to".repeat(199)));
    }

    private static void fromInList() {
        Gate.sentence("WELL: from among them alike");
        for (String list : new String[] {"from", "FROM", "From", "to:from", "from:to", "to:fRoM:cc", "from:from"}) {
            duePass(list, RIGHT.replace("h=from", "h=" + list));
        }
        for (String list : new String[] {"", "to", "fro", "froms", "xfrom", "to:cc", "from-", "grom", "fsom", "frnm", "fron"}) {
            dueWell(list, RIGHT.replace("h=from", "h=" + list), false);
        }
        dueWell("no h", RIGHT.replace("h=from; ", ""), false);
    }

    private static void plainness() {
        Gate.sentence("WELL: c, if there, simple or relaxed, then / and one of these or nothing (simple then)");
        for (String plain : new String[] {"simple", "relaxed", "simple/simple", "relaxed/simple"}) {
            duePass(plain, RIGHT.replace("v=1;", "v=1; c=" + plain + ";"));
        }
        String blanks = "x  y \n";
        for (String plain : new String[] {"", "c=simple;", "c=relaxed;", "c=relaxed/simple;", "c=simple/relaxed;"}) {
            boolean relaxed = plain.endsWith("/relaxed;");
            String field = RIGHT.replace("v=1;", "v=1;" + plain).replace(SUM, Signer.bodySum(blanks, relaxed, -1));
            Gate.due("the BODY of " + plain, sealed(SIGNER.message(blanks, FROM, field), 5), 2);
            field = RIGHT.replace("v=1;", "v=1;" + plain).replace(SUM, Signer.bodySum(blanks, !relaxed, -1));
            Gate.due("the BODY of " + plain + ", the other way", sealed(SIGNER.message(blanks, FROM, field), 5), 3);
        }
        for (String plain : new String[] {"", "/", "simpl", "simples", "relaxe", "relaxedd", "/simple", "simple/simpl",
            "simple/simples", "simple/relaxe", "simple/relaxedd", "simple/simple/", "simple//simple", "SIMPLE", "simple,simple"}) {
            dueWell("c=" + plain, RIGHT.replace("v=1;", "v=1; c=" + plain + ";"), false);
        }
    }

    private static void nineDigits() {
        Gate.sentence("WELL: l, x, if there, digits, at most 9");
        for (String digits : new String[] {"0", "6", "000000006", "00", "999999999", "123456789"}) {
            dueWell("x=" + digits, RIGHT + ";x=" + digits, true);
            dueWell("l=" + digits, RIGHT + ";l=" + digits, true);
        }
        for (String digits : new String[] {"", "0000000006", "1000000000", "2147483648", "4294967296", "-1", "+1", "1.0",
            "x", "1x", "x1", "/", ":", "1/", "1:"}) {
            dueWell("x=" + digits, RIGHT + ";x=" + digits, false);
            dueWell("l=" + digits, RIGHT + ";l=" + digits, false);
        }
        duePass("neither", RIGHT);
        duePass("both", RIGHT.replace("v=1;", "v=1; l=6; x=5;"));
        duePass("nine digits each", RIGHT.replace("v=1;", "v=1; l=000000006; x=000000005;"));
    }

    private static void nowAboveX() {
        Gate.sentence("SEALED: x, and NOW is above it: FAIL 3");
        int[] times = {0, 1, 100, 999999998, 999999999};
        for (int time : times) {
            String text = SIGNER.message(BODY, FROM, RIGHT.replace("v=1;", "v=1; x=" + time + ";"));
            Gate.due("NOW is x, " + time, sealed(text, time), 2);
            Gate.due("NOW is above x, " + time, sealed(text, time + 1), 3);
            Gate.due("NOW is far above x, " + time, sealed(text, MAX), 3);
            Gate.due("NOW is 0, x is " + time, sealed(text, 0), 2);
            Gate.due("above x, and no key", sealed(text, time + 1, new String[0]), 3);
            Gate.due("x, and no key", sealed(text, time, new String[0]), 6);
        }
        Gate.due("no x", sealed(SIGNER.message(BODY, FROM, RIGHT), MAX), 2);
    }

    private static void noFrom() {
        Gate.sentence("SEALED: not WELL, or of no FIELD from among h: NEUTRAL 1");
        Gate.due("no FIELD from", sealed(SIGNER.message(BODY, "To: x@a.com", RIGHT), 5), 1);
        Gate.due("a FIELD like it", sealed(SIGNER.message(BODY, "Fromm: x@a.com", RIGHT), 5), 1);
        Gate.due("one", sealed(SIGNER.message(BODY, FROM, RIGHT), 5), 2);
        Gate.due("one, behind the SEAL", sealed(SIGNER.message(BODY, RIGHT, FROM), 5), 2);
        Gate.due("two", sealed(SIGNER.message(BODY, FROM, FROM, RIGHT), 5), 2);
        Gate.due("NEUTRAL before x", sealed(SIGNER.message(BODY, "To: x", RIGHT.replace("v=1;", "v=1; x=1;")), 5), 1);
        Gate.due("NEUTRAL before the key", sealed(SIGNER.message(BODY, "To: x", RIGHT), 5, "x"), 1);
    }

    private static void keyName() {
        Gate.sentence("SEALED: the TEXTS of s._domainkey.d (no NAME: none)");
        for (int length = 56; length <= 62; length++) {
            for (String selector : new String[] {"k", "abcdefghij0123456789"}) {
                String domain = Names.ofLength(length - "._domainkey.".length() - selector.length());
                Gate gate = new Gate();
                int taken = gate.text(selector + "._domainkey." + domain, "p=" + SIGNER.key());
                gate.text((selector + "._domainkey." + domain).substring(0, Math.min(60, length)), "p=" + SIGNER.key());
                gate.message(SIGNER.message(BODY, FROM, RIGHT.replace("s=k", "s=" + selector).replace("a.com", domain)));
                Gate.due("it may have a TEXT with " + length, taken, length <= 60 ? 1 : -1);
                Gate.due("a NAME of " + length, gate.gate.sealed(0, 5), length <= 60 ? 2 : 6);
            }
        }
    }

    private static void noneOrTheFirst() {
        Gate.sentence("SEALED: TROUBLE 5; none: BROKEN 6; of the first: TAGS");
        String text = SIGNER.message(BODY, FROM, RIGHT);
        String right = "p=" + SIGNER.key();
        Gate.due("none", sealed(text, 5, new String[0]), 6);
        Gate.due("one", sealed(text, 5, right), 2);
        Gate.due("the first of two", sealed(text, 5, right, "x"), 2);
        Gate.due("the second of two", sealed(text, 5, "x", right), 6);
        Gate.due("the second of two, the first empty", sealed(text, 5, "", right), 6);
        Gate gate = new Gate();
        gate.message(text);
        gate.trouble("k._domainkey.a.com");
        Gate.due("TROUBLE and none", gate.gate.sealed(0, 5), 5);
        gate.text("k._domainkey.a.com", right);
        Gate.due("TROUBLE and one", gate.gate.sealed(0, 5), 5);
        gate.gate.forget();
        gate.text("k._domainkey.a.com", right);
        gate.trouble("domainkey.a.com");
        gate.trouble("a.com");
        Gate.due("TROUBLE of others", gate.gate.sealed(0, 5), 2);
        gate.gate.forget();
        Gate.due("one that was forgotten", gate.gate.sealed(0, 5), 6);
        for (int i = 0; i < 39; i++) {
            gate.text("a.com", right);
        }
        Gate.due("none among 39", gate.gate.sealed(0, 5), 6);
        gate.text("k._domainkey.a.com", right);
        Gate.due("as entry 40", gate.gate.sealed(0, 5), 2);
        gate.gate.forget();
        for (int i = 0; i < 40; i++) {
            gate.text("a.com", right);
        }
        Gate.due("none among 40", gate.gate.sealed(0, 5), 6);
    }

    private static String key(int size) {
        byte[] bytes = new byte[size];
        Arrays.fill(bytes, (byte) 255);
        return "p=" + Base64.getEncoder().encodeToString(bytes);
    }

    private static void keyOf64Bytes() {
        Gate.sentence("SEALED: p in BASE 64 of 64 bytes, else BROKEN");
        String text = SIGNER.message(BODY, FROM, RIGHT);
        for (int size : new int[] {0, 1, 61, 62, 63, 64, 65, 66, 67, 128}) {
            Gate.due("of " + size, sealed(text, 5, key(size)), size == 64 ? 3 : 6);
        }
        String p = SIGNER.key();
        Gate.due("without its =", sealed(text, 5, "p=" + p.replace("=", "")), 6);
        Gate.due("with one = more", sealed(text, 5, "p=" + p + "="), 6);
        Gate.due("what is over is not 0", sealed(text, 5, "p=" + p.substring(0, 85) + (char) (p.charAt(85) + 1) + "=="), 6);
        Gate.due("no p", sealed(text, 5, "v=DKIM1"), 6);
    }

    private static void highestAndLowestBit() {
        Gate.sentence("SEALED: p, the highest bit 1, the lowest, too, else BROKEN");
        String text = SIGNER.message(BODY, FROM, RIGHT);
        BigInteger top = BigInteger.ONE.shiftLeft(511);
        BigInteger[] broken = {BigInteger.ZERO, BigInteger.ONE, top, top.subtract(BigInteger.ONE),
            top.shiftLeft(1).subtract(BigInteger.TWO), SIGNER.modulus.clearBit(511), SIGNER.modulus.clearBit(0),
            top.add(BigInteger.TWO)};
        for (BigInteger p : broken) {
            Gate.due("p is " + p.toString(16), sealed(text, 5, "p=" + Signer.packed(p)), 6);
        }
        BigInteger[] right = {top.add(BigInteger.ONE), top.shiftLeft(1).subtract(BigInteger.ONE),
            SIGNER.modulus.add(BigInteger.TWO), SIGNER.modulus.flipBit(510)};
        for (BigInteger p : right) {
            Gate.due("p is " + p.toString(16), sealed(text, 5, "p=" + Signer.packed(p)), 3);
        }
        Gate.due("the right p", sealed(text, 5, "p=" + Signer.packed(SIGNER.modulus)), 2);
    }

    private static void tagsOfTheKey() {
        Gate.sentence("SEALED: of the first: TAGS (at most 40), without WHITE and byte 10 (v, if there, DKIM1; k, if there, rsa)");
        String text = SIGNER.message(BODY, FROM, RIGHT);
        String p = "p=" + SIGNER.key();
        for (int count = 38; count <= 42; count++) {
            Gate.due(count + " TAGS", sealed(text, 5, tags(count - 1) + p), count <= 40 ? 2 : 6);
            Gate.due(count + " TAGS and ;", sealed(text, 5, tags(count - 1) + p + ";"), count <= 40 ? 2 : 6);
        }
        String[] right = {p, p + ";", "v=DKIM1;" + p, "k=rsa;" + p, p + ";k=rsa;v=DKIM1", "abcdefgh=;" + p, " p\t=\n" + p.substring(2)};
        for (String key : right) {
            Gate.due(key, sealed(text, 5, key), 2);
        }
        String[] wrong = {"", ";", p + ";;", ";" + p, "abcdefghi=;" + p, "=;" + p, p + ";" + p, "v=;" + p, "v=DKIM;" + p,
            "v=DKIM11;" + p, "k=;" + p, "k=rs;" + p, "k=rsaa;" + p, "P" + p.substring(1), "x;" + p};
        for (String key : wrong) {
            Gate.due(key, sealed(text, 5, key), 6);
        }
        int room = 700 - p.length() - 3;
        Gate.due("a key of 700 bytes", sealed(text, 5, "n=" + "x".repeat(room) + ";" + p), 2);
    }

    private static void lengthOfBody() {
        Gate.sentence("SEALED: the BODY made PLAIN, of l only the first so many bytes (less of them: FAIL), is bh, else FAIL");
        String body = "hello \n\n\n";
        for (String plain : new String[] {"simple", "relaxed"}) {
            boolean relaxed = plain.equals("relaxed");
            String whole = Model.plain(body, relaxed);
            for (int l = 0; l <= whole.length() + 2; l++) {
                String counted = whole.substring(0, Math.min(l, whole.length()));
                String sum = Base64.getEncoder().encodeToString(Model.sum(counted));
                String field = RIGHT.replace("v=1;", "v=1; c=simple/" + plain + "; l=" + l + ";").replace(SUM, sum);
                String text = SIGNER.message(body, FROM, field);
                Gate.due(plain + ", l=" + l, sealed(text, 5), l <= whole.length() ? 2 : 3);
                Gate.due(plain + ", l=" + l + ", another byte behind", sealed(text.replace("hello", "hello!"), 5),
                        l <= 5 ? 2 : 3);
            }
        }
        for (String over : new String[] {"\0", "\u00ff", "\n", "h", "!"}) {
            String sum = Base64.getEncoder().encodeToString(Model.sum(BODY + over));
            String field = RIGHT.replace("v=1;", "v=1; l=7;").replace(SUM, sum);
            Gate.due("a byte that is not there", sealed(SIGNER.message(BODY, FROM, field), 5), 3);
        }
        String sum = Base64.getEncoder().encodeToString(Model.sum(""));
        String field = RIGHT.replace("v=1;", "v=1; c=simple/relaxed; l=0;").replace(SUM, sum);
        Gate.due("l=0 of an empty BODY", sealed(SIGNER.message("", FROM, field), 5), 2);
        Gate.due("l=1 of an empty BODY", sealed(SIGNER.message("", FROM, field.replace("l=0", "l=1")), 5), 3);
        field = RIGHT.replace("v=1;", "v=1; l=999999999;");
        Gate.due("l=999999999", sealed(SIGNER.message(BODY, FROM, field), 5), 3);
    }

    private static void notTaken() {
        Gate.sentence("SEALED: each time the last one with the name that was not taken (none: nothing)");
        for (int named = 0; named <= 4; named++) {
            String field = RIGHT.replace("h=from", "h=from" + ":to".repeat(named));
            String text = SIGNER.message(BODY, "To: 1", "TO: 2", FROM, "to: 3", field);
            Gate.due(named + " named", sealed(text, 5), 2);
            Gate.due(named + " named, the last other", sealed(text.replace("to: 3", "to: 4"), 5), named >= 1 ? 3 : 2);
            Gate.due(named + " named, the second other", sealed(text.replace("TO: 2", "TO: 4"), 5), named >= 2 ? 3 : 2);
            Gate.due(named + " named, the first other", sealed(text.replace("To: 1", "To: 4"), 5), named >= 3 ? 3 : 2);
            Gate.due(named + " named, one more", sealed("To: 0\n" + text, 5), named >= 4 ? 3 : 2);
        }
    }

    private static void namesOfFields() {
        Gate.sentence("SEALED: the FIELDS of h, with the name (alike if they are with small letters)");
        String field = RIGHT.replace("h=from", "h=from:to");
        for (String name : new String[] {"To", "TO", "tO"}) {
            String text = SIGNER.message(BODY, FROM, name + ": 1", field);
            Gate.due(name, sealed(text, 5), 2);
            Gate.due(name + " other", sealed(text.replace(name + ": 1", name + ": 2"), 5), 3);
        }
        for (String name : new String[] {"T", "Too", "Tp", "Uo", "xTo", "T-"}) {
            String text = SIGNER.message(BODY, FROM, name + ": 1", field);
            Gate.due(name, sealed(text, 5), 2);
            Gate.due(name + " other", sealed(text.replace(name + ": 1", name + ": 2"), 5), 2);
        }
    }

    private static void tagsInAnyOrder() {
        Gate.sentence("A SEAL: TAGS, each by its letters, wherever it stands");
        String[] tags = {"v=1", "a=rsa-sha256", "d=a.com", "s=k", "h=from", "c=relaxed/simple", "l=6", "x=7", "z=1",
            "bh=" + SUM, "b=B!"};
        for (int first = 0; first < tags.length; first++) {
            StringBuilder field = new StringBuilder("DKIM-Signature: ");
            for (int i = 0; i < tags.length; i++) {
                field.append(i == 0 ? "" : "; ").append(tags[(first + i) % tags.length]);
            }
            String text = SIGNER.message(BODY, FROM, field.toString());
            Gate.due(tags[first] + " first", sealed(text, 7), 2);
            Gate.due(tags[first] + " first, above x", sealed(text, 8), 3);
            Gate.due(tags[first] + " first, relaxed", sealed(text.replace("From: ", "FROM:  "), 7), 2);
            Gate.due(tags[first] + " first, more than l", sealed(text + "more\n", 7), 2);
        }
        for (int i = 0; i < tags.length; i++) {
            String key = "p=" + SIGNER.key();
            String[] keys = {"v=DKIM1", "k=rsa", key, "n=1"};
            String turned = keys[i % 4] + ";" + keys[(i + 1) % 4] + ";" + keys[(i + 2) % 4] + ";" + keys[(i + 3) % 4];
            Gate.due(turned, sealed(SIGNER.message(BODY, FROM, RIGHT), 5, turned), 2);
            Gate.due("v other", sealed(SIGNER.message(BODY, FROM, RIGHT), 5, turned.replace("DKIM1", "x")), 6);
            Gate.due("k other", sealed(SIGNER.message(BODY, FROM, RIGHT), 5, turned.replace("rsa", "x")), 6);
        }
    }

    private static void eachSealBeginsAnew() {
        Gate.sentence("SEALED, of SEAL k (whatever the one before was)");
        String blanks = "x  y \n";
        String[] plains = {"", "c=relaxed;", "c=simple/relaxed;", "c=relaxed/relaxed;", "l=1;", "x=9;", "c=z;"};
        for (String one : plains) {
            for (String other : plains) {
                Gate gate = new Gate();
                gate.text("k._domainkey.a.com", "p=" + SIGNER.key());
                for (String plain : new String[] {one, other}) {
                    String sum = Signer.bodySum(blanks, plain.endsWith("/relaxed;"), plain.equals("l=1;") ? 1 : -1);
                    String field = RIGHT.replace("v=1;", "v=1;" + plain).replace(SUM, sum);
                    String text = SIGNER.message(blanks, FROM, field);
                    gate.message(text);
                    boolean well = !plain.equals("c=z;");
                    Gate.due(plain + " of " + one + " and " + other, gate.gate.sealed(0, 9), well ? 2 : 1);
                    gate.message(text.replace("From: ", "From:  "));
                    int changed = plain.startsWith("c=relaxed") ? 2 : 3;
                    Gate.due(plain + " with a blank more", gate.gate.sealed(0, 9), well ? changed : 1);
                }
            }
        }
        for (long key = 200; key < 206; key++) {
            dueOneByOne(new Signer(key));
        }
        // What is over in one power spoils the next only if p is near its greatest value.
        int great = 0;
        for (long key = 300; great < 6; key++) {
            Signer signer = new Signer(key);
            if (signer.modulus.testBit(510)) {
                dueOneByOne(signer);
                great++;
            }
        }
    }

    private static void dueOneByOne(Signer signer) {
        Gate gate = new Gate();
        gate.text("k._domainkey.a.com", "p=" + signer.key());
        for (int i = 0; i < 8; i++) {
            String text = signer.message(BODY, FROM, RIGHT.replace("v=1;", "v=1; i=" + i + ";"));
            String b = text.substring(text.lastIndexOf(" b=") + 3, text.indexOf("\n\n"));
            for (String other : new String[] {"A" + b.substring(1), "/" + b.substring(1), "/////" + b.substring(5)}) {
                gate.message(text.replace(b, other));
                Gate.due("MESSAGE " + i + ", another b", gate.gate.sealed(0, 9), other.equals(b) ? 2 : 3);
                gate.message(text);
                Gate.due("MESSAGE " + i, gate.gate.sealed(0, 9), 2);
            }
            gate.message(text.replace("i=" + i, "i=" + (i + 1)));
            Gate.due("MESSAGE " + i + ", changed", gate.gate.sealed(0, 9), 3);
        }
    }

    private static void valueOfBLeftOut() {
        Gate.sentence("SEALED: with all that is b's value left out (from behind b= to before ; or the end)");
        for (String plain : new String[] {"simple", "relaxed"}) {
            String head = RIGHT.replace("v=1;", "v=1; c=" + plain + ";").replace("b=B!", "");
            for (String end : new String[] {"b=B!", "b=B! ", "b= B!", "b=B!;", "b=B! ;", "b=B!; z=1", "b\t=\n B!\n ;\n z=1",
                "bb=2; b=B!; ab=3", "z=b=1; b=B!", "z=1;\n b\n =B!", "z=1;b=B!", "z=1;b=B!;y=2", "\n b=B!;y=2"}) {
                duePass(plain + " with " + end, head + end);
            }
        }
        duePass("b first, without WHITE", RIGHT.replace(" v=1;", "b=B!;v=1;").replace("; b=B!", ""));
        duePass("b first", RIGHT.replace("v=1;", "b=B!;v=1;").replace("; b=B!", ""));
        duePass("b first, behind WHITE", RIGHT.replace("v=1;", "\tb=B! ; v=1;").replace("; b=B!", ""));
    }

    private static void remainder() {
        Gate.sentence("SEALED: b, as a number, to the 65537th power, by the remainder of p");
        String text = SIGNER.message(BODY, FROM, RIGHT);
        String b = text.substring(text.lastIndexOf(" b=") + 3, text.indexOf("\n\n"));
        BigInteger number = new BigInteger(1, Base64.getDecoder().decode(b));
        BigInteger top = BigInteger.ONE.shiftLeft(512).subtract(BigInteger.ONE);
        BigInteger[] wrong = {BigInteger.ZERO, BigInteger.ONE, SIGNER.modulus, SIGNER.modulus.subtract(BigInteger.ONE),
            SIGNER.modulus.add(BigInteger.ONE), top, number.subtract(BigInteger.ONE), number.add(BigInteger.ONE),
            number.flipBit(511), number.flipBit(0)};
        for (BigInteger other : wrong) {
            Gate.due("b is " + other.toString(16), sealed(text.replace(b, Signer.packed(other)), 5), 3);
        }
        Gate.due("b is right", sealed(text.replace(b, Signer.packed(number)), 5), 2);
        for (long key = 100; key < 108; key++) {
            Signer signer = new Signer(key);
            String sealed = signer.message(BODY, FROM, RIGHT);
            Gate.due("key " + key, sealed(sealed, 5, "p=" + signer.key()), 2);
        }
    }

    private static void everyByteOfThePower() {
        Gate.sentence("SEALED: is: byte 0, 1, 10 times 255, 0, the bytes 48 to 32, g. Then PASS 2, else FAIL");
        String text = SIGNER.message(BODY, FROM, RIGHT);
        String b = text.substring(text.lastIndexOf(" b=") + 3, text.indexOf("\n\n"));
        BigInteger number = new BigInteger(1, Base64.getDecoder().decode(b));
        BigInteger power = number.modPow(BigInteger.valueOf(65537), SIGNER.modulus);
        Gate.due("the power itself", sealed(text.replace(b, SIGNER.sign(power)), 5), 2);
        for (int bit = 0; bit < 512; bit++) {
            BigInteger other = power.flipBit(bit);
            if (other.compareTo(SIGNER.modulus) < 0) {
                Gate.due("bit " + bit + " other", sealed(text.replace(b, SIGNER.sign(other)), 5), 3);
            }
        }
        byte[] bytes = power.toByteArray();
        byte[] sum = Arrays.copyOfRange(bytes, bytes.length - 32, bytes.length);
        Gate.due("g alone", sealed(text.replace(b, SIGNER.sign(new BigInteger(1, sum))), 5), 3);
        Gate.due("all but the first bytes", sealed(text.replace(b, SIGNER.sign(power.clearBit(496))), 5), 3);
    }

    private static void longest() {
        Gate.sentence("THE TAPE has at most 3000 (the longest sealed MESSAGE)");
        int room = 3000 - SIGNER.message("", FROM, RIGHT).length();
        for (int size = room - 1; size <= room; size++) {
            String body = "x".repeat(size);
            String field = RIGHT.replace(SUM, Signer.bodySum(body, false, -1));
            Gate.due("a BODY of " + size, sealed(SIGNER.message(body, FROM, field), 5), 2);
        }
        room = 3000 - SIGNER.message(BODY, FROM, "To: ", RIGHT.replace("h=from", "h=from:to")).length();
        String to = "To: " + "y".repeat(room);
        Gate.due("a FIELD of " + to.length(), sealed(SIGNER.message(BODY, FROM, to, RIGHT.replace("h=from", "h=from:to")), 5), 2);
        room = 3000 - SIGNER.message(BODY, FROM, RIGHT + ";z=").length();
        duePass("a SEAL of the most bytes", RIGHT + ";z=" + "w".repeat(room));
        String twice = RIGHT.replace("h=from", "h=from:dkim-signature") + ";z=";
        room = 3000 - SIGNER.message(BODY, FROM, twice).length();
        dueWell("a SEAL of the most bytes that names itself", twice + "w".repeat(room), true);
    }
}
