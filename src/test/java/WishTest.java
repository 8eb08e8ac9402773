/** Promise 15: wish. */
public final class WishTest {
    private static final int HERE = 0xC0000201;
    private static final Signer SIGNER = new Signer(15);

    public static void main(String[] args) {
        refused();
        domains();
        records();
        wants();
        houses();
        permissions();
        seals();
        trouble();
        costs();
        Gate.finish("WishTest");
    }

    /** A SENDER that nobody permits, and a MESSAGE from x@a.com. */
    private static Gate gate(String... texts) {
        Gate gate = new Gate();
        for (int i = 0; i < texts.length; i += 2) {
            gate.text(texts[i], texts[i + 1]);
        }
        gate.sender("x@a.com", HERE);
        gate.message("From: x@a.com\n\nhello\n");
        return gate;
    }

    private static void due(String what, Gate gate, int want) {
        Gate.due(what, gate.gate.wish(5), want);
    }

    private static void refused() {
        Gate gate = new Gate();
        due("without a SENDER and a MESSAGE", gate, -1);
        gate.message("From: x@a.com");
        due("without a SENDER", gate, -1);
        gate = new Gate();
        gate.sender("x@a.com", 1);
        due("without a MESSAGE", gate, -2);
        Gate.due("NOW -1 without a MESSAGE", gate.gate.wish(-1), -1);
        gate.message("From: x@a.com");
        Gate.due("NOW -1", gate.gate.wish(-1), -1);
        Gate.due("NOW MIN", gate.gate.wish(Integer.MIN_VALUE), -1);
        Gate.due("NOW 0", gate.gate.wish(0), 0);
        Gate.due("NOW MAX", gate.gate.wish(Integer.MAX_VALUE), 0);
    }

    private static void domains() {
        Gate gate = gate("_dmarc.a.com", "v=DMARC1; p=reject");
        String[] right = {"x@a.com", " x@a.com ", "X <x@a.com>", "x@A.Com", "\"q@b.com\" <x@a.com> (z)", "x@a.com\n z",
            "@a.com", "x@a.com\ty", "x@b.com,y@a.com", "x@a.com>@a.com", "x@mail.a.com"};
        for (String value : right) {
            gate.message("To: b\nfROM:" + value + "\n\nx");
            due("From:" + value, gate, 9);
        }
        String[] wrong = {"", "x", "x@", "x@ a.com", "x@>", "x@a..com", "x@a.com,", "x@a.com@", "x@a.com\"", "x@\n a.com",
            "x@" + "abcdefghij0123456789".repeat(2), "x@\u00e4.com", "x@a.com@b com@"};
        for (String value : wrong) {
            gate.message("From:" + value + "\n\nx");
            due("From:" + value, gate, 1);
        }
        gate.message("To: x@a.com");
        due("no From", gate, 1);
        gate.message("From: x@a.com\nFROM: x@a.com");
        due("two From", gate, 1);
        gate.message("From: x@b.com");
        due("another domain", gate, 0);
        String part = "abcdefghij0123456789";
        gate.message("From: x@" + part + "." + part + "." + part.substring(2));
        due("a NAME of 60", gate, 0);
        gate.message("From: x@" + part + "." + part + "." + part.substring(1));
        due("a NAME of 61", gate, 1);
    }

    private static void records() {
        due("no TEXT", gate(), 0);
        due("another TEXT", gate("_dmarc.a.com", "v=spf1 all"), 0);
        due("a TEXT of the domain itself", gate("a.com", "v=DMARC1; p=reject"), 0);
        due("one and another", gate("_dmarc.a.com", "x", "_dmarc.a.com", "v=DMARC1; p=reject"), 9);
        due("two", gate("_dmarc.a.com", "v=DMARC1; p=reject", "_dmarc.a.com", "v=DMARC1; p=none"), 0);
        due("small letters", gate("_dmarc.a.com", "v=dmarc1; p=reject"), 0);
        due("a blank first", gate("_dmarc.a.com", " v=DMARC1; p=reject"), 0);
        due("WHITE anywhere", gate("_dmarc.a.com", "v=DMARC1 ;\tp = re ject\n;"), 9);
        due("no TAGS", gate("_dmarc.a.com", "v=DMARC1; p=reject;;"), 6);
        due("p twice", gate("_dmarc.a.com", "v=DMARC1; p=reject; p=reject"), 6);
        due("p alone", gate("_dmarc.a.com", "v=DMARC1; p"), 6);
        due("a great letter", gate("_dmarc.a.com", "v=DMARC1; p=reject; X=y"), 6);
        due("others", gate("_dmarc.a.com", "v=DMARC1; rua=mailto:x@a.com; pct=1; p=reject"), 9);
    }

    private static void wants() {
        due("none", gate("_dmarc.a.com", "v=DMARC1; p=none"), 7);
        due("quarantine", gate("_dmarc.a.com", "v=DMARC1; p=quarantine"), 8);
        due("reject", gate("_dmarc.a.com", "v=DMARC1; p=reject"), 9);
        due("without p", gate("_dmarc.a.com", "v=DMARC1; sp=reject"), 6);
        due("p empty", gate("_dmarc.a.com", "v=DMARC1; p="), 6);
        due("p other", gate("_dmarc.a.com", "v=DMARC1; p=Reject"), 6);
        due("sp is not asked", gate("_dmarc.a.com", "v=DMARC1; p=reject; sp=none"), 9);
        due("a wrong sp is not asked", gate("_dmarc.a.com", "v=DMARC1; p=reject; sp=x"), 9);
        String[] texts = {"p=reject", "p=reject; sp=none", "p=none; sp=quarantine", "p=none; sp=reject", "p=none; sp=x",
            "p=none; sp=", "p=x; sp=none", "sp=none"};
        int[] answers = {9, 7, 8, 9, 6, 6, 6, 6};
        for (int i = 0; i < texts.length; i++) {
            Gate gate = gate("_dmarc.a.com", "v=DMARC1; " + texts[i]);
            gate.message("From: x@m.a.com");
            due("found at the HOUSE: " + texts[i], gate, answers[i]);
        }
    }

    private static void houses() {
        Gate gate = gate("_dmarc.m.a.com", "v=DMARC1; p=none; sp=reject", "_dmarc.a.com", "v=DMARC1; p=reject");
        gate.message("From: x@m.a.com");
        due("its own first", gate, 7);
        gate.message("From: x@y.m.a.com");
        due("not what is between", gate, 9);
        gate.text("_dmarc.m.a.com", "v=DMARC1; p=none");
        gate.message("From: x@m.a.com");
        due("two of its own: the HOUSE's", gate, 9);
        gate.text("_dmarc.a.com", "v=DMARC1; p=none");
        due("two of the HOUSE, too", gate, 0);
        gate = gate("_dmarc.b.co.uk", "v=DMARC1; p=reject", "_dmarc.co.uk", "v=DMARC1; p=none");
        gate.message("From: x@a.b.co.uk");
        due("without a SUFFIX", gate, 7);
        gate.suffix("co.uk");
        due("with a SUFFIX", gate, 9);
        gate.message("From: x@co.uk");
        due("the SUFFIX itself", gate, 7);
        String part = "abcdefghij0123456789";
        gate = gate("_dmarc.b.com", "v=DMARC1; p=quarantine");
        gate.message("From: x@" + part + "." + part + ".abcdefghij.b.com");
        due("_dmarc. and 58 is no NAME, its HOUSE is", gate, 8);
    }

    private static void permissions() {
        String reject = "v=DMARC1; p=reject";
        due("PASS, the same NAME", gate("_dmarc.a.com", reject, "a.com", "v=spf1 all"), 2);
        for (String end : new String[] {"?all", "~all", "-all", "x", ""}) {
            due("PERMISSION by " + end, gate("_dmarc.a.com", reject, "a.com", "v=spf1 " + end), 9);
        }
        String[] texts = {"", "; aspf=r", "; aspf=s", "; aspf=S", "; adkim=s", "; aspf="};
        int[] answers = {2, 2, 9, 2, 2, 2};
        for (int i = 0; i < texts.length; i++) {
            Gate gate = gate("_dmarc.a.com", reject + texts[i], "m.a.com", "v=spf1 all");
            gate.sender("x@m.a.com", HERE);
            due("of the same HOUSE" + texts[i], gate, answers[i]);
            gate.text("a.com", "v=spf1 all");
            gate.sender("x@a.com", HERE);
            due("of the same NAME" + texts[i], gate, 2);
        }
        Gate gate = gate("_dmarc.a.com", reject, "b.com", "v=spf1 all");
        gate.sender("x@b.com", HERE);
        due("of another HOUSE", gate, 9);
        gate.suffix("net");
        due("of another HOUSE still", gate, 9);
        gate = gate("_dmarc.a.co.uk", reject, "b.co.uk", "v=spf1 all");
        gate.sender("x@b.co.uk", HERE);
        gate.message("From: x@a.co.uk");
        due("one HOUSE without a SUFFIX", gate, 2);
        gate.suffix("co.uk");
        due("two HOUSES with a SUFFIX", gate, 9);
    }

    private static String seal(String domain, String more) {
        return "DKIM-Signature: v=1; a=rsa-sha256; d=" + domain + "; s=k; h=from; " + more + "bh="
                + Signer.bodySum("hello\n", false, -1) + "; b=B!";
    }

    private static void seals() {
        String[] texts = {"", "; adkim=r", "; adkim=s", "; aspf=s", "; adkim=ss"};
        int[] answers = {2, 2, 9, 2, 2};
        for (int i = 0; i < texts.length; i++) {
            Gate gate = gate("_dmarc.a.com", "v=DMARC1; p=reject" + texts[i]);
            for (String domain : new String[] {"a.com", "m.a.com", "b.com"}) {
                gate.text("k._domainkey." + domain, "p=" + SIGNER.key());
            }
            gate.message(SIGNER.message("hello\n", "From: x@a.com", seal("a.com", "")));
            due("of the same NAME" + texts[i], gate, 2);
            gate.message(SIGNER.message("hello\n", "From: x@a.com", seal("m.a.com", "")));
            due("of the same HOUSE" + texts[i], gate, answers[i]);
            gate.message(SIGNER.message("hello\n", "From: x@a.com", seal("b.com", "")));
            due("of another HOUSE" + texts[i], gate, 9);
            gate.message(SIGNER.message("other\n", "From: x@a.com", seal("a.com", "")));
            due("FAIL" + texts[i], gate, 9);
            String[] fields = {"From: x@a.com", "dkim-signature: x", seal("b.com", ""), seal("a.com", "")};
            gate.message(SIGNER.message("hello\n", fields));
            due("some SEAL" + texts[i], gate, 2);
            gate.message(SIGNER.message("hello\n", seal("a.com", ""), "From: x@a.com"));
            due("the SEAL first" + texts[i], gate, 2);
        }
        Gate gate = gate("_dmarc.a.com", "v=DMARC1; p=quarantine", "k._domainkey.a.com", "p=" + SIGNER.key());
        gate.message(SIGNER.message("hello\n", "From: x@a.com", seal("a.com", "x=10; ")));
        Gate.due("NOW is x", gate.gate.wish(10), 2);
        Gate.due("NOW above x", gate.gate.wish(11), 8);
    }

    private static void trouble() {
        Gate gate = gate("_dmarc.a.com", "v=DMARC1; p=reject");
        gate.message("From: x@m.a.com");
        gate.trouble("a.com");
        gate.trouble("m.a.com");
        due("of the names themselves", gate, 9);
        gate.trouble("_dmarc.a.com");
        due("of the HOUSE's", gate, 5);
        gate.text("_dmarc.m.a.com", "v=DMARC1; p=none");
        due("of a HOUSE that is not asked", gate, 7);
        gate.trouble("_dmarc.m.a.com");
        due("of its own", gate, 5);
    }

    private static void costs() {
        Gate gate = gate("_dmarc.a.com", "v=DMARC1; p=reject", "a.com", "v=spf1 a mx all");
        due("the PERMISSION of a WISH", gate, 2);
        Gate.due("COUNTED", gate.gate.cost(0), 2);
        Gate.due("VOID", gate.gate.cost(1), 2);
    }
}
