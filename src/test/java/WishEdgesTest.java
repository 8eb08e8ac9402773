/** The boundary cases of promise 15 (wish). */
public final class WishEdgesTest {
    private static final int MIN = Integer.MIN_VALUE;
    private static final int MAX = Integer.MAX_VALUE;
    private static final int HERE = 0xC0000201;
    private static final Signer SIGNER = new Signer(31);
    private static final String BODY = "hello\n";

    public static void main(String[] args) {
        withoutMessage();
        withoutSender();
        nowBelowZero();
        refusedFirst();
        fromOnce();
        lastAt();
        upToItsEnd();
        domainIsAName();
        signsOfDomain();
        beginsWith();
        oneAloneOfTheDomain();
        oneAloneOfTheHouse();
        longPlaces();
        trouble();
        tags();
        p();
        sp();
        strict();
        sameHouse();
        passByPermission();
        passBySomeSeal();
        sealInTime();
        Gate.finish("WishEdgesTest");
    }

    /** A SENDER that nobody permits, and a MESSAGE from x@a.com. */
    private static Gate gate(String... texts) {
        Gate gate = new Gate();
        for (int i = 0; i < texts.length; i += 2) {
            gate.text(texts[i], texts[i + 1]);
        }
        gate.sender("x@other.net", HERE);
        gate.message("From: x@a.com\n\n" + BODY);
        return gate;
    }

    private static void due(String what, Gate gate, int want) {
        Gate.due(what, gate.gate.wish(5), want);
    }

    private static int wishFrom(String value) {
        Gate gate = gate("_dmarc.a.com", "v=DMARC1; p=reject");
        gate.message("From:" + value);
        return gate.gate.wish(5);
    }

    private static void withoutMessage() {
        Gate.sentence("wish: NONE without a MESSAGE");
        Gate gate = new Gate();
        gate.sender("x@a.com", HERE);
        due("none", gate, -2);
        gate.message("a");
        due("a refused one", gate, -2);
        gate.message("a:");
        due("one", gate, 1);
        gate.message("a");
        due("one, and then a refused one", gate, 1);
    }

    private static void withoutSender() {
        Gate.sentence("wish: REFUSED without a SENDER");
        Gate gate = new Gate();
        gate.message("From: x@a.com");
        due("none", gate, -1);
        gate.sender("x@a..com", HERE);
        due("a refused one", gate, -1);
        gate.sender("x@a.com", HERE);
        due("one", gate, 0);
    }

    private static void nowBelowZero() {
        Gate.sentence("wish: REFUSED for a NOW below 0");
        Gate gate = gate("_dmarc.a.com", "v=DMARC1; p=reject");
        for (int now : new int[] {0, 1, MAX}) {
            Gate.due("NOW " + now, gate.gate.wish(now), 9);
        }
        for (int now : new int[] {-1, -2, MIN}) {
            Gate.due("NOW " + now, gate.gate.wish(now), -1);
        }
    }

    private static void refusedFirst() {
        Gate.sentence("wish: NONE without a MESSAGE; REFUSED, first");
        Gate gate = new Gate();
        Gate.due("neither a SENDER nor a MESSAGE", gate.gate.wish(0), -1);
        Gate.due("neither, and NOW below 0", gate.gate.wish(-1), -1);
        gate.sender("x@a.com", HERE);
        Gate.due("a SENDER, no MESSAGE, and NOW below 0", gate.gate.wish(-1), -1);
        Gate.due("a SENDER, no MESSAGE", gate.gate.wish(0), -2);
    }

    private static void fromOnce() {
        Gate.sentence("WISH: the FIELD from, once: else NEUTRAL 1");
        Gate gate = gate("_dmarc.a.com", "v=DMARC1; p=reject");
        for (int count = 0; count <= 3; count++) {
            gate.message("To: x@a.com\n" + "From: x@a.com\n".repeat(count) + "Cc: x@a.com\n");
            due(count + " of them", gate, count == 1 ? 9 : 1);
        }
        gate.message("From: x@a.com\nFROM: x@a.com");
        due("two that are alike", gate, 1);
        gate.message("FROM: x@a.com\nfrom-: x\nxfrom: y\nfro: z\n\nFrom: y@b.com\n");
        due("one and others", gate, 9);
        gate.message("a: x\n".repeat(19) + "From: x@a.com");
        due("as the last of 20", gate, 9);
    }

    private static void lastAt() {
        Gate.sentence("WISH: Its domain: behind the last @ of its VALUE");
        Gate.due("one", wishFrom("x@a.com"), 9);
        Gate.due("two", wishFrom("x@b.com@a.com"), 9);
        Gate.due("two, the other way", wishFrom("x@a.com@b.com"), 0);
        Gate.due("none", wishFrom(" a.com"), 1);
        Gate.due("nothing at all", wishFrom(""), 1);
        Gate.due("as the first byte", wishFrom("@a.com"), 9);
        Gate.due("as the last byte", wishFrom("x@"), 1);
        Gate.due("as the last byte, behind a domain", wishFrom("x@a.com>@"), 1);
        Gate.due("in the second line", wishFrom("x@b.com\n y@a.com"), 9);
        Gate.due("of the next FIELD", wishFrom("x\nTo: x@a.com"), 1);
    }

    private static void upToItsEnd() {
        Gate.sentence("WISH: up to WHITE, >, byte 10 or the end");
        for (int c = 0; c < 256; c++) {
            boolean ends = c == 32 || c == 9 || c == '>' || c == 10;
            // A line behind byte 10 must begin with WHITE.
            String sign = c == 10 ? "\n " : String.valueOf((char) c);
            Gate.due("byte " + c + " behind", wishFrom("x@a.com" + sign + "?"), ends ? 9 : 1);
            boolean another = Names.mayStand(c) && c != '.' || c >= 'A' && c <= 'Z';
            Gate.due("byte " + c + " before", wishFrom("x@" + sign + "a.com"), c == '@' ? 9 : another ? 0 : 1);
        }
        Gate.due("the end", wishFrom("x@a.com"), 9);
        Gate.due("the end of the line", wishFrom("x@a.com\nTo: y"), 9);
        Gate.due("the empty line", wishFrom("x@a.com\n\ny"), 9);
    }

    private static void domainIsAName() {
        Gate.sentence("WISH: a NAME, else NEUTRAL 1");
        for (String name : Names.RIGHT) {
            Gate.due("of " + name, wishFrom("x@" + name), 0);
            Gate.due("of " + name + " and more", wishFrom("<x@" + name + "> y"), 0);
        }
        for (String name : Names.WRONG) {
            Gate.due("of " + name, wishFrom("x@" + name), 1);
        }
        Gate.due("of 2900 bytes", wishFrom("x@" + "a.".repeat(1450) + "a"), 1);
    }

    private static void signsOfDomain() {
        Gate.sentence("WISH: (small letters made)");
        Gate gate = gate("_dmarc.az-_09.com", "v=DMARC1; p=quarantine");
        for (String name : new String[] {"az-_09.com", "AZ-_09.COM", "aZ-_09.Com"}) {
            gate.message("From: x@" + name);
            due(name, gate, 8);
        }
        gate.message("From: x@y.AZ-_09.com");
        due("its HOUSE, too", gate, 8);
        for (char beside : new char[] {'@', '[', '`', '{', '\u00c4'}) {
            gate.message("From: x@y" + beside + ".com");
            due("beside the letters: " + beside, gate, 1);
            gate.message("From: x@y" + beside);
            due("beside the letters, at the end: " + beside, gate, 1);
        }
    }

    private static void beginsWith() {
        Gate.sentence("WISH: The TEXTS of _dmarc.domain that begin with v=DMARC1");
        due("all of it", gate("_dmarc.a.com", "v=DMARC1; p=reject"), 9);
        due("without a blank", gate("_dmarc.a.com", "v=DMARC1;p=reject"), 9);
        due("and nothing else", gate("_dmarc.a.com", "v=DMARC1"), 6);
        for (String text : new String[] {"", "v=DMARC", "v=DMARC2; p=reject", "v=dmarc1; p=reject", " v=DMARC1; p=reject",
            "p=reject; v=DMARC1", "V=DMARC1; p=reject", "v =DMARC1; p=reject"}) {
            due("none: " + text, gate("_dmarc.a.com", text), 0);
            due("one beside " + text, gate("_dmarc.a.com", text, "_dmarc.a.com", "v=DMARC1; p=reject"), 9);
        }
    }

    private static void oneAloneOfTheDomain() {
        Gate.sentence("WISH: not one alone: those of _dmarc.HOUSE");
        for (int own = 0; own <= 3; own++) {
            Gate gate = gate("_dmarc.a.com", "v=DMARC1; p=reject");
            for (int i = 0; i < own; i++) {
                gate.text("_dmarc.m.a.com", "v=DMARC1; p=none");
            }
            gate.message("From: x@m.a.com");
            due(own + " of its own", gate, own == 1 ? 7 : 9);
        }
    }

    private static void oneAloneOfTheHouse() {
        Gate.sentence("WISH: those of _dmarc.HOUSE; not one alone: NONE 0");
        for (int count = 0; count <= 3; count++) {
            Gate gate = gate();
            for (int i = 0; i < count; i++) {
                gate.text("_dmarc.a.com", "v=DMARC1; p=reject");
            }
            due(count + ", it is its own HOUSE", gate, count == 1 ? 9 : 0);
            gate.message("From: x@m.a.com");
            due(count + ", of its HOUSE", gate, count == 1 ? 9 : 0);
            gate.message("From: x@n.m.a.com");
            due(count + ", not of what is between", gate, count == 1 ? 9 : 0);
        }
    }

    private static void longPlaces() {
        Gate.sentence("WISH: _dmarc.domain (NAMES: 1 to 60 bytes)");
        for (int length = 51; length <= 56; length++) {
            String domain = Names.ofLength(length);
            Gate gate = new Gate();
            gate.sender("x@other.net", HERE);
            gate.message("From: x@" + domain);
            int taken = gate.text("_dmarc." + domain, "v=DMARC1; p=reject");
            gate.text(("_dmarc." + domain).substring(0, Math.min(60, length + 7)), "v=DMARC1; p=none; q=1");
            Gate.due("it may have a TEXT with " + (length + 7), taken, length <= 53 ? 1 : -1);
            due("with " + (length + 7), gate, 0);
            gate.gate.forget();
            gate.text("_dmarc." + domain, "v=DMARC1; p=reject");
            due("one alone with " + (length + 7), gate, length <= 53 ? 9 : 0);
            gate.gate.forget();
            String house = domain.substring(domain.lastIndexOf('.', domain.lastIndexOf('.') - 1) + 1);
            gate.text("_dmarc." + house, "v=DMARC1; p=quarantine");
            due("its HOUSE's with " + (length + 7), gate, 8);
        }
    }

    private static void trouble() {
        Gate.sentence("WISH: TROUBLE 5");
        Gate gate = gate("_dmarc.a.com", "v=DMARC1; p=reject");
        gate.trouble("a.com");
        gate.trouble("dmarc.a.com");
        gate.trouble("x._dmarc.a.com");
        due("of others", gate, 9);
        gate.message("From: x@m.a.com");
        due("of others, by its HOUSE", gate, 9);
        gate.trouble("_dmarc.a.com");
        due("of its HOUSE", gate, 5);
        gate.text("_dmarc.m.a.com", "v=DMARC1; p=none");
        due("of its HOUSE, which is not asked", gate, 7);
        gate.trouble("_dmarc.m.a.com");
        due("its own, with a TEXT", gate, 5);
        gate = gate();
        gate.trouble("_dmarc.a.com");
        due("its own, without a TEXT", gate, 5);
        gate.message("From: x@a..com");
        due("NEUTRAL first", gate, 1);
    }

    private static void tags() {
        Gate.sentence("WISH: TAGS, without WHITE and byte 10 (BROKEN 6 if it is none)");
        for (int count = 38; count <= 42; count++) {
            StringBuilder more = new StringBuilder();
            for (int i = 2; i < count; i++) {
                more.append(';').append((char) ('a' + i / 26)).append((char) ('a' + i % 26)).append("z=1");
            }
            due(count + " TAGS", gate("_dmarc.a.com", "v=DMARC1; p=reject" + more), count <= 40 ? 9 : 6);
            due(count + " TAGS and ;", gate("_dmarc.a.com", "v=DMARC1; p=reject" + more + ";"), count <= 40 ? 9 : 6);
        }
        for (String more : new String[] {"", ";", "; ", ";abcdefgh=", " ; z = 1\n;", ";z=;zz="}) {
            due("TAGS with " + more, gate("_dmarc.a.com", "v=DMARC1; p=reject" + more), 9);
        }
        for (String more : new String[] {";;", "; ;", ";abcdefghi=", ";=", ";z", ";Z=1", ";z1=1", ";z=1;z=1", ";p=reject",
            ";v=DMARC1"}) {
            due("no TAGS with " + more, gate("_dmarc.a.com", "v=DMARC1; p=reject" + more), 6);
        }
        String head = "v=DMARC1; p=reject; n=";
        due("700 bytes", gate("_dmarc.a.com", head + "x".repeat(700 - head.length())), 9);
    }

    private static void p() {
        Gate.sentence("WISH: p none, quarantine, reject (BROKEN 6 else): none 7, quarantine 8, reject 9");
        String[] values = {"none", "quarantine", "reject"};
        for (int i = 0; i < 3; i++) {
            due(values[i], gate("_dmarc.a.com", "v=DMARC1; p=" + values[i]), 7 + i);
        }
        for (String value : new String[] {"", "non", "nonee", "None", "quarantin", "quarantines", "rejec", "rejects", "x"}) {
            due(value, gate("_dmarc.a.com", "v=DMARC1; p=" + value), 6);
        }
        due("no p", gate("_dmarc.a.com", "v=DMARC1; sp=none; pp=none"), 6);
    }

    private static void sp() {
        Gate.sentence("WISH: sp, if the domain was not found itself, likewise; by p (sp, if it is there)");
        String[] values = {"none", "quarantine", "reject", "", "x", "non", "Reject"};
        int[] answers = {7, 8, 9, 6, 6, 6, 6};
        for (int i = 0; i < values.length; i++) {
            Gate gate = gate("_dmarc.a.com", "v=DMARC1; p=quarantine; sp=" + values[i]);
            due("found itself, sp=" + values[i], gate, 8);
            gate.message("From: x@m.a.com");
            due("not found itself, sp=" + values[i], gate, answers[i]);
        }
        Gate gate = gate("_dmarc.a.com", "v=DMARC1; p=quarantine");
        gate.message("From: x@m.a.com");
        due("not found itself, no sp", gate, 8);
    }

    private static void strict() {
        Gate.sentence("WISH: adkim, aspf: s strict, else not. ALIGNED: strict: the same NAME; else of the same HOUSE");
        String[] values = {"", "; aspf=s", "; aspf=r", "; aspf=", "; aspf=S", "; aspf=ss", "; adkim=s"};
        for (String value : values) {
            Gate gate = gate("_dmarc.a.com", "v=DMARC1; p=reject" + value, "m.a.com", "v=spf1 all", "a.com", "v=spf1 all");
            gate.sender("x@a.com", HERE);
            due("the same NAME" + value, gate, 2);
            gate.sender("x@m.a.com", HERE);
            due("of the same HOUSE" + value, gate, value.equals("; aspf=s") ? 9 : 2);
        }
        for (String value : values) {
            String tag = value.replace("aspf", "ADKIM").replace("adkim", "aspf").replace("ADKIM", "adkim");
            for (String domain : new String[] {"a.com", "m.a.com"}) {
                Gate gate = gate("_dmarc.a.com", "v=DMARC1; p=reject" + tag, "k._domainkey." + domain, "p=" + SIGNER.key());
                gate.message(SIGNER.message(BODY, "From: x@a.com", seal(domain, "")));
                boolean passes = domain.equals("a.com") || !tag.equals("; adkim=s");
                due("a SEAL of " + domain + tag, gate, passes ? 2 : 9);
            }
        }
    }

    private static void sameHouse() {
        Gate.sentence("WISH: ALIGNED: else of the same HOUSE");
        String[] domains = {"a.com", "m.a.com", "n.m.a.com", "b.com", "com", "aa.com", "a.com.a", "-a.com", "a.co"};
        int[] answers = {2, 2, 2, 9, 9, 9, 9, 9, 9};
        for (int i = 0; i < domains.length; i++) {
            Gate gate = gate("_dmarc.a.com", "v=DMARC1; p=reject", domains[i], "v=spf1 all");
            gate.sender("x@" + domains[i], HERE);
            due(domains[i], gate, answers[i]);
            gate.message("From: x@y.a.com");
            due(domains[i] + " and another of that HOUSE", gate, answers[i]);
            gate.suffix("com");
            due(domains[i] + " with a SUFFIX", gate, answers[i]);
            gate.suffix("a.com");
            gate.text("_dmarc.y.a.com", "v=DMARC1; p=reject");
            due(domains[i] + " with a SUFFIX between", gate, 9);
        }
        Gate gate = gate("_dmarc.com", "v=DMARC1; p=reject", "com", "v=spf1 all", "b.com", "v=spf1 all");
        gate.message("From: x@com");
        gate.suffix("com");
        gate.sender("x@com", HERE);
        due("a SUFFIX and itself", gate, 2);
        gate.sender("x@b.com", HERE);
        due("a SUFFIX and one part more", gate, 9);
    }

    private static void passByPermission() {
        Gate.sentence("WISH: PASS 2 if PERMISSION is PASS and the SENDER's DOMAIN ALIGNED");
        String[] texts = {"v=spf1 all", "v=spf1 ?all", "v=spf1 ~all", "v=spf1 -all", "v=spf1", "v=spf1 x", "x"};
        for (String text : texts) {
            Gate gate = gate("_dmarc.a.com", "v=DMARC1; p=none", "a.com", text);
            gate.sender("x@a.com", HERE);
            due(text, gate, text.equals("v=spf1 all") ? 2 : 7);
        }
        Gate gate = gate("_dmarc.a.com", "v=DMARC1; p=none", "a.com", "v=spf1 all");
        gate.sender("x@a.com", HERE);
        gate.trouble("a.com");
        due("TROUBLE", gate, 7);
        for (int count = 10; count <= 11; count++) {
            gate = gate("_dmarc.a.com", "v=DMARC1; p=none", "a.com", "v=spf1" + " a:b.com".repeat(count) + " all");
            gate.address("b.com", 1);
            gate.sender("x@a.com", HERE);
            due(count + " that COUNT", gate, count == 10 ? 2 : 7);
        }
        gate = gate("_dmarc.a.com", "v=DMARC1; p=x", "a.com", "v=spf1 all");
        gate.sender("x@a.com", HERE);
        due("BROKEN before PASS", gate, 6);
        gate = gate("a.com", "v=spf1 all");
        gate.sender("x@a.com", HERE);
        due("NONE before PASS", gate, 0);
    }

    private static String seal(String domain, String more) {
        return "DKIM-Signature: v=1; a=rsa-sha256; d=" + domain + "; s=k; h=from; " + more + "bh="
                + Signer.bodySum(BODY, false, -1) + "; b=B!";
    }

    private static void passBySomeSeal() {
        Gate.sentence("WISH: or some SEAL is PASS and its d ALIGNED");
        for (int count = 1; count <= 19; count += 6) {
            for (int good = 0; good <= count; good += 3) {
                Gate gate = gate("_dmarc.a.com", "v=DMARC1; p=reject", "k._domainkey.a.com", "p=" + SIGNER.key());
                String[] fields = new String[count + 1];
                java.util.Arrays.fill(fields, "dkim-signature: x");
                fields[0] = "From: x@a.com";
                if (good > 0) {
                    fields[good] = seal("a.com", "");
                }
                gate.message(SIGNER.message(BODY, fields));
                due("SEAL " + good + " of " + count, gate, good > 0 ? 2 : 9);
            }
        }
        Gate gate = gate("_dmarc.a.com", "v=DMARC1; p=reject", "k._domainkey.a.com", "p=" + SIGNER.key(),
                "k._domainkey.b.com", "p=" + SIGNER.key());
        String bad = seal("a.com", "").replace("B!", "A".repeat(86) + "==");
        gate.message(SIGNER.message(BODY, "From: x@a.com", bad, seal("b.com", "")));
        due("one ALIGNED, the other PASS", gate, 9);
        gate.message(SIGNER.message(BODY, "From: x@a.com", seal("b.com", ""), bad));
        due("one PASS, the other ALIGNED", gate, 9);
        gate.message(SIGNER.message(BODY, "From: x@a.com", seal("b.com", ""), seal("a.com", "")));
        due("the second both", gate, 2);
        gate.message(SIGNER.message(BODY, seal("a.com", ""), "From: x@a.com"));
        due("as the first FIELD", gate, 2);
        gate.message(SIGNER.message(BODY, "From: x@a.com"));
        due("none", gate, 9);
    }

    private static void sealInTime() {
        Gate.sentence("wish: WISH, by a NOW");
        for (int time : new int[] {0, 1, 999999999}) {
            Gate gate = gate("_dmarc.a.com", "v=DMARC1; p=reject", "k._domainkey.a.com", "p=" + SIGNER.key());
            gate.message(SIGNER.message(BODY, "From: x@a.com", seal("a.com", "x=" + time + "; ")));
            Gate.due("NOW is x, " + time, gate.gate.wish(time), 2);
            Gate.due("NOW is above x, " + time, gate.gate.wish(time + 1), 9);
        }
    }
}
