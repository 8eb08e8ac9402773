import java.math.BigInteger;
import java.util.Base64;

/** Promise 11: sealed. */
public final class SealTest {
    private static final Signer SIGNER = new Signer(11);
    private static final Signer OTHER = new Signer(12);
    private static final String FROM = "From: X <x@a.com>";
    private static final String BODY = "hello \n\n";

    public static void main(String[] args) {
        ordinary();
        whichSeal();
        plainness();
        notWell();
        wellAnyhow();
        noFrom();
        time();
        keys();
        keyNames();
        lengths();
        lists();
        ownField();
        numbers();
        order();
        Gate.finish("SealTest");
    }

    private static Gate gate() {
        Gate gate = new Gate();
        gate.text("k._domainkey.a.com", "v=DKIM1; k=rsa; p=" + SIGNER.key());
        return gate;
    }

    private static String sum(String plain) {
        return Signer.bodySum(BODY, plain.endsWith("/relaxed"), -1);
    }

    private static String seal(String more) {
        return "DKIM-Signature: v=1; a=rsa-sha256; d=a.com; s=k; h=from; " + more + "bh=" + sum("") + "; b=B!";
    }

    private static int answer(String text, int now) {
        Gate gate = gate();
        gate.message(text);
        return gate.gate.sealed(0, now);
    }

    private static void due(String what, String field, int want) {
        Gate.due(what, answer(SIGNER.message(BODY, FROM, field), 5), want);
    }

    private static void ordinary() {
        String text = SIGNER.message(BODY, FROM, "To: b", seal(""));
        Gate.due("sealed", answer(text, 0), 2);
        Gate.due("another BODY", answer(text.replace("hello", "hellp"), 0), 3);
        Gate.due("another From", answer(text.replace("X <", "Y <"), 0), 3);
        Gate.due("another To, which is not in h", answer(text.replace("To: b", "To: c"), 0), 2);
        Gate.due("another SEAL", answer(text.replace("v=1; a", "v=1;  a"), 0), 3);
        Gate.due("another key", answer(OTHER.message(BODY, FROM, seal("")), 0), 3);
    }

    private static void whichSeal() {
        Gate gate = gate();
        gate.message(SIGNER.message(BODY, "dkim-signature: x", FROM, seal("")));
        Gate.due("SEAL 0", gate.gate.sealed(0, 5), 1);
        Gate.due("SEAL 1", gate.gate.sealed(1, 5), 2);
        Gate.due("SEAL 2", gate.gate.sealed(2, 5), -2);
        Gate.due("SEAL -1", gate.gate.sealed(-1, 5), -2);
        Gate.due("SEAL MIN", gate.gate.sealed(Integer.MIN_VALUE, 5), -2);
        Gate.due("SEAL MAX", gate.gate.sealed(Integer.MAX_VALUE, 5), -2);
        Gate.due("NOW -1", gate.gate.sealed(1, -1), -1);
        Gate.due("NOW -1 without a SEAL", gate.gate.sealed(9, -1), -1);
        Gate.due("NOW MIN", gate.gate.sealed(1, Integer.MIN_VALUE), -1);
        Gate.due("NOW MAX", gate.gate.sealed(1, Integer.MAX_VALUE), 2);
        Gate.due("the same again", gate.gate.sealed(1, 5), 2);
        Gate.due("and the first", gate.gate.sealed(0, 5), 1);
    }

    private static void plainness() {
        for (String plain : new String[] {"simple", "relaxed", "simple/simple", "simple/relaxed", "relaxed/simple",
            "relaxed/relaxed"}) {
            String field = "DKIM-Signature: v=1; a=rsa-sha256;\n\td=a.com; s=k; c=" + plain + "; h=from:subject; bh="
                    + sum(plain) + ";\n b=B!";
            String text = SIGNER.message(BODY, FROM, "Subject: a  b", field);
            Gate.due("c=" + plain, answer(text, 5), 2);
            boolean relaxedFields = plain.startsWith("relaxed");
            boolean relaxedBody = plain.endsWith("/relaxed");
            Gate.due(plain + ", fields", answer(text.replace("Subject: a  b", "SUBJECT:a b "), 5), relaxedFields ? 2 : 3);
            Gate.due(plain + ", body", answer(text.replace("hello ", "hello\t \n"), 5), relaxedBody ? 2 : 3);
            Gate.due(plain + ", empty lines", answer(text + "\n\n", 5), 2);
        }
        String field = "DKIM-Signature: v=1; a=rsa-sha256; d=a.com; s=k; c=relaxed; h=from; bh="
                + Signer.bodySum("", false, -1) + "; b=B!";
        Gate.due("an empty BODY, simple", answer(SIGNER.message("", FROM, field), 5), 2);
        Gate.due("no BODY", answer(SIGNER.message("", FROM, field).replaceAll("\n\n$", ""), 5), 2);
        field = field.replace("c=relaxed", "c=simple/relaxed").replace(Signer.bodySum("", false, -1),
                Signer.bodySum("", true, -1));
        Gate.due("an empty BODY, relaxed", answer(SIGNER.message("", FROM, field), 5), 2);
    }

    private static void notWell() {
        String right = seal("");
        String[][] changes = {{"v=1; ", ""}, {"v=1", "v=2"}, {"v=1", "v="}, {"v=1", "V=1"}, {"a=rsa-sha256; ", ""},
            {"rsa-sha256", "rsa-sha1"}, {"rsa-sha256", "RSA-sha256"}, {"d=a.com; ", ""}, {"d=a.com", "d=A.com"},
            {"d=a.com", "d=a..com"}, {"d=a.com", "d="}, {"s=k; ", ""}, {"s=k", "s=K"}, {"s=k", "s=k."}, {"h=from; ", ""},
            {"h=from", "h="}, {"h=from", "h=to"}, {"h=from", "h=from:"}, {"h=from", "h=:from"}, {"h=from", "h=from::to"},
            {"h=from", "h=from:a_b"}, {"h=from", "h=from:abcdefghij-1234567890"}, {"h=from", "h=fro:m"},
            {"h=from", "h=fromm"}, {"h=from", "h=xrom"}, {"h=from", "h=frox"}, {"s=k;", "s=k;;"}, {"s=k;", "s=k; s=k;"}, {"s=k;", "s=k; ;"}, {"s=k;", "s=k; x;"},
            {"s=k;", "s=k; =x;"}, {"s=k;", "s=k; abcdefghi=x;"}, {"s=k;", "s=k; X=x;"}, {"s=k;", "s=k; a1=x;"},
            {"b=B!", ""}, {"b=B!", "b="}, {"v=1", ";v=1"}, {"b=B!", "b=B!;;"}};
        for (String[] change : changes) {
            String field = right.replace(change[0], change[1]);
            String text = FROM + "\n" + field.replace("B!", "A".repeat(86) + "==") + "\n\n" + BODY;
            Gate.due("not WELL: " + field, answer(text, 5), 1);
        }
        for (String more : new String[] {"c=", "c=x", "c=simple/", "c=relaxed/", "c=/simple", "c=Simple",
            "c=simple/simple/simple", "c=simple/x", "c=relaxedx", "l=", "l=x", "l=-1", "l=1234567890", "x=", "x=1.5",
            "x=1234567890", "x=+1"}) {
            String text = FROM + "\n" + seal(more + ";").replace("B!", "A".repeat(86) + "==") + "\n\n" + BODY;
            Gate.due("not WELL: " + more, answer(text, 5), 1);
        }
        for (String b : new String[] {"A".repeat(86), "A".repeat(87) + "=", "A".repeat(88), "A".repeat(85) + "B==",
            "A".repeat(84) + "!A==", "A".repeat(82) + "==", "A".repeat(90) + "==", "A".repeat(86) + "=",
            "A".repeat(86) + "===", "A".repeat(85) + "=A=", "A".repeat(85) + "-=="}) {
            Gate.due("b=" + b, answer(FROM + "\n" + seal("").replace("B!", b) + "\n\n" + BODY, 5), 1);
        }
        for (String bh : new String[] {"A".repeat(43), "A".repeat(44), "A".repeat(42) + "==", "A".repeat(42) + "B=",
            "A".repeat(42) + "D=", "", "A".repeat(39) + "=", "A".repeat(47) + "=", "A".repeat(43) + "=="}) {
            String field = seal("").replace(sum(""), bh).replace("B!", "A".repeat(86) + "==");
            Gate.due("bh=" + bh, answer(FROM + "\n" + field + "\n\n" + BODY, 5), 1);
        }
        Gate.due("WELL, but wrong", answer(FROM + "\n" + seal("").replace("B!", "A".repeat(86) + "==") + "\n\n" + BODY, 5),
                3);
        String many = manyTags(41).replace("B!", "A".repeat(86) + "==");
        Gate.due("41 TAGS", answer(FROM + "\n" + many + "\n\n" + BODY, 5), 1);
        due("40 TAGS", manyTags(40), 2);
    }

    private static String manyTags(int count) {
        StringBuilder more = new StringBuilder();
        for (int i = 7; i < count; i++) {
            more.append((char) ('a' + i % 26)).append((char) ('a' + i / 26)).append("z=;");
        }
        return seal(more.toString());
    }

    private static void wellAnyhow() {
        due("; at the end", seal("") + ";", 2);
        due("others are passed", seal("q=dns/txt; t=1; abcdefgh=a=b=c; i=@a.com; "), 2);
        due("WHITE anywhere", seal("").replace("rsa-sha256", "rsa -\n\tsha\t256").replace("d=a", " d\t= a"), 2);
        due("other letters in h", seal("").replace("h=from", "h=FROM:To:x-Y"), 2);
        due("c with WHITE", seal("c = relaxed / simple ;"), 2);
        due("nine digits", seal("x=999999999;"), 2);
    }

    private static void noFrom() {
        Gate.due("a MESSAGE without From", answer(SIGNER.message(BODY, "To: b", seal("")), 5), 1);
        Gate.due("From in other letters", answer(SIGNER.message(BODY, "fROM: b", seal("")), 5), 2);
    }

    private static void time() {
        String text = SIGNER.message(BODY, FROM, seal("x=100; "));
        Gate.due("NOW below x", answer(text, 99), 2);
        Gate.due("NOW is x", answer(text, 100), 2);
        Gate.due("NOW above x", answer(text, 101), 3);
        Gate.due("x=0 by 0", answer(SIGNER.message(BODY, FROM, seal("x=0; ")), 0), 2);
        Gate.due("x=0 by 1", answer(SIGNER.message(BODY, FROM, seal("x=0; ")), 1), 3);
        String first = seal("").replace("v=1;", "x=3; v=1;");
        Gate.due("x as the first TAG", answer(SIGNER.message(BODY, FROM, first), 4), 3);
        Gate.due("x as the first TAG, in time", answer(SIGNER.message(BODY, FROM, first), 3), 2);
        Gate.due("x=007", answer(SIGNER.message(BODY, FROM, seal("x=007; ")), 8), 3);
    }

    private static void key(String what, int want, String... texts) {
        Gate gate = new Gate();
        for (String text : texts) {
            gate.text("k._domainkey.a.com", text);
        }
        gate.message(SIGNER.message(BODY, FROM, seal("")));
        Gate.due("the key " + what, gate.gate.sealed(0, 5), want);
    }

    private static void keys() {
        String p = SIGNER.key();
        key("none", 6);
        key("p alone", 2, "p=" + p);
        key("p and ;", 2, "p=" + p + ";");
        key("with WHITE", 2, "p = " + p.substring(0, 9) + " \n\t" + p.substring(9) + " ; k = r sa");
        key("with others", 2, "v=DKIM1;n=;t=s;p=" + p);
        key("the first counts, wrong", 6, "x", "p=" + p);
        key("the first counts, right", 2, "p=" + p, "x");
        key("empty", 6, "");
        key("no TAGS", 6, "p=" + p + ";;");
        key("p twice", 6, "p=" + p + ";p=" + p);
        key("without p", 6, "v=DKIM1; k=rsa");
        key("p empty", 6, "p=");
        key("p of 63 bytes", 6, "p=" + Base64.getEncoder().encodeToString(new byte[63]));
        key("p with bits over", 6, "p=" + p.substring(0, 85) + (char) (p.charAt(85) + 1) + "==");
        key("v other", 6, "v=DKIM2; p=" + p);
        key("v empty", 6, "v=; p=" + p);
        key("v in small letters", 6, "v=dkim1; p=" + p);
        key("k other", 6, "k=ed25519; p=" + p);
        key("k in great letters", 6, "k=RSA; p=" + p);
        key("the highest bit 0", 6, "p=" + Signer.packed(SIGNER.modulus.clearBit(511)));
        key("the lowest bit 0", 6, "p=" + Signer.packed(SIGNER.modulus.clearBit(0)));
        key("another", 3, "p=" + OTHER.key());
        key("the smallest", 3, "p=" + Signer.packed(BigInteger.ONE.shiftLeft(511).setBit(0)));
        key("the greatest", 3, "p=" + Signer.packed(BigInteger.ONE.shiftLeft(512).subtract(BigInteger.ONE)));
    }

    private static void keyNames() {
        Gate gate = gate();
        gate.trouble("k._domainkey.a.com");
        gate.message(SIGNER.message(BODY, FROM, seal("")));
        Gate.due("TROUBLE of the key", gate.gate.sealed(0, 5), 5);
        gate.gate.forget();
        gate.trouble("a.com");
        gate.trouble("_domainkey.a.com");
        Gate.due("TROUBLE of others", gate.gate.sealed(0, 5), 6);
        String part = "abcdefghij0123456789";
        for (int more = 15; more <= 16; more++) {
            String domain = part + "." + part.substring(0, 10) + "." + part.substring(0, more);
            gate.gate.forget();
            int taken = gate.text("k._domainkey." + domain, "p=" + SIGNER.key());
            gate.message(SIGNER.message(BODY, FROM, seal("").replace("d=a.com", "d=" + domain)));
            Gate.due("a key's NAME of " + (13 + domain.length()), taken, more == 15 ? 1 : -1);
            gate.text(("k._domainkey." + domain).substring(0, 60), "p=" + SIGNER.key());
            Gate.due("by it", gate.gate.sealed(0, 5), more == 15 ? 2 : 6);
        }
    }

    private static void length(int l, String sumOf, int want) {
        String field = "DKIM-Signature: v=1; a=rsa-sha256; d=a.com; s=k; l=" + l + "; h=from; bh="
                + Base64.getEncoder().encodeToString(Model.sum(sumOf)) + "; b=B!";
        due("l=" + l + " of " + sumOf, field, want);
    }

    private static void lengths() {
        length(0, "", 2);
        length(5, "hello", 2);
        length(6, "hello ", 2);
        length(7, "hello \n", 2);
        length(8, "hello \n", 3);
        length(999999999, "hello \n", 3);
        length(5, "hello \n", 3);
    }

    private static void lists() {
        String list = "h=from:to:To:TO:subject:from";
        String field = seal("").replace("h=from", list);
        String text = SIGNER.message(BODY, "To: 1", FROM, "To: 2", field, "To: 3");
        Gate.due("FIELDS are taken from below", answer(text, 5), 2);
        Gate.due("each only once", answer(text.replace("To: 1", "To: 4"), 5), 3);
        Gate.due("their order is that of h", answer(swap(text, "To: 1", "To: 3"), 5), 3);
        Gate.due("one more To", answer("To: 0\n" + text, 5), 2);
        Gate.due("one more Subject", answer("Subject: x\n" + text, 5), 3);
        Gate.due("one more From", answer("From: x\n" + text, 5), 3);
        String date = SIGNER.message(BODY, FROM, "To: 1", "Cc: 2", seal("").replace("h=from", "h=from:to:xrom"));
        Gate.due("names of the same length", answer(date, 5), 2);
        Gate.due("another To", answer(date.replace("To: 1", "To: 3"), 5), 3);
        Gate.due("another Cc", answer(date.replace("Cc: 2", "Cc: 3"), 5), 2);
        String own = seal("").replace("h=from", "h=from:dkim-signature");
        String both = SIGNER.message(BODY, FROM, own, "DKIM-Signature: x");
        Gate.due("another FIELD of the SEAL's name", answer(both, 5), 2);
        Gate.due("changed", answer(both.replace("ture: x", "ture: y"), 5), 3);
    }

    private static String swap(String text, String one, String other) {
        return text.replace(one, "\u0000").replace(other, one).replace("\u0000", other);
    }

    private static void ownField() {
        for (String end : new String[] {"b=B!", "b=B!;", "b= B! ;", "b=\n B!", "b = B!\n ;\n t=1", "\n\tb\t=B! \t"}) {
            for (String plain : new String[] {"simple", "relaxed"}) {
                String field = seal("c=" + plain + "; ").replace("b=B!", end);
                String text = SIGNER.message(BODY, FROM, field);
                Gate.due(plain + " with " + end, answer(text, 5), 2);
            }
        }
        String first = "DKIM-Signature: b=B!; v=1; a=rsa-sha256; d=a.com; s=k; h=from; bh=" + sum("");
        due("b first", first, 2);
        due("no blanks", first.replace(" ", ""), 2);
        due("no blanks, relaxed", first.replace(" ", "") + ";c=relaxed", 2);
        due("no blanks, b last", seal("").replace(" ", ""), 2);
        String text = SIGNER.message(BODY, FROM, first);
        String b = text.substring(text.indexOf("b=") + 2, text.indexOf("; v=1"));
        Gate.due("WHITE within b", answer(text.replace(b, b.substring(0, 40) + "\n " + b.substring(40)), 5), 2);
        due("bb is not b", "DKIM-Signature: bb=x;" + seal("").substring(15), 2);
    }

    private static void numbers() {
        String text = SIGNER.message(BODY, FROM, seal(""));
        String b = text.substring(text.lastIndexOf("b=") + 2, text.indexOf("\n\n"));
        BigInteger number = new BigInteger(1, Base64.getDecoder().decode(b));
        int tried = 0;
        for (int i = 0; i < 40; i++) {
            String body = "hello " + i;
            String field = "DKIM-Signature: v=1; a=rsa-sha256; d=a.com; s=k; h=from; bh="
                    + Signer.bodySum(body, false, -1) + "; b=B!";
            String other = SIGNER.message(body, FROM, field);
            Gate.due("body " + i, answer(other, 5), 2);
            String old = other.substring(other.lastIndexOf("b=") + 2, other.indexOf("\n\n"));
            BigInteger more = new BigInteger(1, Base64.getDecoder().decode(old)).add(SIGNER.modulus);
            if (more.bitLength() <= 512) {
                Gate.due("b above p", answer(other.replace(old, Signer.packed(more)), 5), 2);
                tried++;
            }
        }
        Gate.due("some b above p", tried > 0 ? 1 : 0, 1);
        for (BigInteger wrong : new BigInteger[] {BigInteger.ZERO, BigInteger.ONE, number.add(BigInteger.ONE),
            SIGNER.modulus, SIGNER.modulus.subtract(BigInteger.ONE), SIGNER.modulus.subtract(number)}) {
            Gate.due("b is " + wrong, answer(text.replace(b, Signer.packed(wrong)), 5), 3);
        }
    }

    private static void order() {
        Gate gate = new Gate();
        gate.message(SIGNER.message("x", FROM, seal("x=3;")));
        Gate.due("x before the key", gate.gate.sealed(0, 5), 3);
        Gate.due("the key before the BODY", gate.gate.sealed(0, 3), 6);
        gate.trouble("k._domainkey.a.com");
        Gate.due("x before TROUBLE", gate.gate.sealed(0, 5), 3);
        Gate.due("TROUBLE before the BODY", gate.gate.sealed(0, 3), 5);
        gate.message(SIGNER.message("x", "To: b", seal("x=3;")));
        Gate.due("NEUTRAL before x", gate.gate.sealed(0, 5), 1);
    }
}
