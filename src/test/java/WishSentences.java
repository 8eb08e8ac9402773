/** The sentences from WISH to ALIGNED. */
final class WishSentences {
    private WishSentences() {
    }

    static void ask() {
        from();
        domains();
        houses();
        records();
        tags();
        aligned();
        answers();
    }

    /** A SENDER that nobody permits, and the record of a.com. */
    private static Gate gate(String record) {
        Gate gate = new Gate();
        gate.sender("x@other.net", 1);
        gate.text("_dmarc.a.com", record);
        return gate;
    }

    private static int wish(Gate gate, String message) {
        gate.message(message);
        return gate.gate.wish(5);
    }

    private static void from() {
        Document.says("WISH: the FIELD from, once: else NEUTRAL 1.");
        Gate gate = gate("v=DMARC1; p=reject");
        Gate.due("once", wish(gate, "To: b\nFrom: x@a.com\nCc: c"), 9);
        Gate.due("never", wish(gate, "To: x@a.com"), 1);
        Gate.due("twice", wish(gate, "From: x@a.com\nFrom: x@a.com"), 1);
        Gate.due("twice, in other letters", wish(gate, "From: x@a.com\nTo: b\nFROM: x@a.com"), 1);
        Gate.due("three times", wish(gate, "From: x@a.com\nFrom: x@a.com\nfrom:"), 1);
        Gate.due("once, and a name that is longer", wish(gate, "From: x@a.com\nFroms: x@a.com\nX-From: y@b.com"), 9);
    }

    private static void domains() {
        Document.says("Its domain: behind the last @ of its VALUE, up to WHITE, >, byte 10 or the end: a NAME"
                + " (small letters made), else NEUTRAL 1.");
        Gate gate = gate("v=DMARC1; p=reject");
        for (String right : new String[] {"x@a.com", "@a.com", " X <x@a.com>", "x@b.com, y@a.com",
            "\"x@b.com\" <x@a.com>", "x@A.COM",
            "x@a.com (b)", "x@a.com\tb", "x@a.com\n b", "x@a.com>b", "x\n @a.com", "x@a.com ", "x@@a.com",
            "x@y.x.A.com", "x@b@a.com"}) {
            Gate.due("From:" + right, wish(gate, "From:" + right + "\n\nx"), 9);
        }
        for (String wrong : new String[] {"", "x", "a.com", "x@", "x@ a.com", "x@>a.com", "x@\n a.com", "x@a.com@",
            "x@a.com,y", "x@.a.com",
            "x@a.com.", "x@a..com", "x@a.com;", "x@a.com<", "x@a%b.com", "x@[1.2.3.4]", "x@\u00c4.com", "x@a.com\r"}) {
            Gate.due("From:" + wrong, wish(gate, "From:" + wrong + "\n\nx"), 1);
        }
        Gate.due("the longest NAME", wish(gate, "From: x@" + Names.LONGEST), 0);
        Gate.due("one that is too long", wish(gate, "From: x@" + Names.LONGEST + "a"), 1);
    }

    private static void houses() {
        Document.says("HOUSE of a NAME: the shortest part of it that it is UNDER and which is UNDER, and not the"
                + " same as, the longest SUFFIX that it is UNDER; itself if there is none such (without a SUFFIX:"
                + " its last two parts).");
        Gate gate = new Gate();
        Gate.due("without a SUFFIX, one part", gate.house("c"), "c");
        Gate.due("without a SUFFIX, two parts", gate.house("b.c"), "b.c");
        Gate.due("without a SUFFIX, four parts", gate.house("y.x.b.c"), "b.c");
        gate.suffix("c");
        Gate.due("a SUFFIX of one part", gate.house("y.x.b.c"), "b.c");
        Gate.due("the SUFFIX itself", gate.house("c"), "c");
        gate.suffix("x.b.c");
        Gate.due("the longest of two", gate.house("z.y.x.b.c"), "y.x.b.c");
        Gate.due("the longest of two, one part before it", gate.house("y.x.b.c"), "y.x.b.c");
        Gate.due("the longest is itself", gate.house("x.b.c"), "x.b.c");
        Gate.due("UNDER the shorter one alone", gate.house("q.b.c"), "b.c");
        Gate.due("UNDER the shorter one alone, one part", gate.house("b.c"), "b.c");
        gate.suffix("b.c");
        Gate.due("the longest of three, which came second", gate.house("z.y.x.b.c"), "y.x.b.c");
        Gate.due("UNDER the two others", gate.house("q.p.b.c"), "p.b.c");
        Gate.due("UNDER none of them", gate.house("q.p.b.d"), "b.d");
        Gate.due("UNDER none of them, though it ends so", gate.house("q.p.bc"), "p.bc");
    }

    private static void records() {
        Document.says("The TEXTS of _dmarc.domain that begin with v=DMARC1; TROUBLE 5; not one alone: those of"
                + " _dmarc.HOUSE; not one alone: NONE 0.");
        String own = "From: x@b.a.com";
        Gate gate = gate("v=DMARC1; p=reject");
        Gate.due("those of the HOUSE", wish(gate, own), 9);
        Gate.due("none", wish(gate, "From: x@b.b.com"), 0);
        gate.text("_dmarc.b.a.com", "v=DMARC1; p=none");
        Gate.due("one alone", wish(gate, own), 7);
        gate.text("_dmarc.b.a.com", "v=dmarc1; p=quarantine");
        gate.text("_dmarc.b.a.com", " v=DMARC1; p=quarantine");
        gate.text("_dmarc.b.a.com", "v=DMARC; p=quarantine");
        Gate.due("one alone that begins so", wish(gate, own), 7);
        Gate.due("not those of what is between", wish(gate, "From: x@c.b.a.com"), 9);
        gate.text("_dmarc.b.a.com", "v=DMARC1; p=quarantine");
        Gate.due("two: those of the HOUSE", wish(gate, own), 9);
        gate.text("_dmarc.a.com", "v=DMARC1");
        Gate.due("two there, too", wish(gate, own), 0);
        gate.trouble("_dmarc.a.com");
        Gate.due("TROUBLE there", wish(gate, own), 5);
        gate.trouble("_dmarc.b.a.com");
        Gate.due("TROUBLE at both", wish(gate, own), 5);
        gate = gate("v=DMARC1; p=reject");
        gate.trouble("_dmarc.b.a.com");
        Gate.due("TROUBLE at the domain", wish(gate, own), 5);
        Gate.due("not at its HOUSE", wish(gate, "From: x@a.com"), 9);
        gate = gate("v=spf1 all");
        Gate.due("a TEXT that begins with something else", wish(gate, "From: x@a.com"), 0);
        gate = gate("v=DMARC1; p=reject");
        gate.text("_dmarc.co.a.com", "v=DMARC1; p=quarantine");
        Gate.due("the HOUSE without a SUFFIX", wish(gate, "From: x@c.b.co.a.com"), 9);
        gate.suffix("a.com");
        Gate.due("the HOUSE with one", wish(gate, "From: x@c.b.co.a.com"), 8);
        // _dmarc. and a NAME of 54 bytes is too long for a NAME, and has no TEXTS.
        gate = gate("v=DMARC1; p=reject");
        String longest = "b".repeat(20) + "." + "b".repeat(20) + "." + "b".repeat(5) + ".a.com";
        Gate.due("the length", longest.length(), 53);
        gate.text("_dmarc." + longest, "v=DMARC1; p=none");
        Gate.due("_dmarc.domain of 60", wish(gate, "From: x@" + longest), 7);
        Gate.due("_dmarc.domain of 61", wish(gate, "From: x@b" + longest.substring(1).replace(".a.", "b.a.")), 9);
    }

    private static void dueRecord(String record, int itself, int under) {
        Gate gate = gate(record);
        Gate.due(record + " for a.com", wish(gate, "From: x@a.com"), itself);
        Gate.due(record + " for b.a.com", wish(gate, "From: x@b.a.com"), under);
    }

    /** What a permitted DOMAIN, and what a SEAL, UNDER a.com gives for the record. */
    private static void dueStrict(String tags, int sender, int seal) {
        Gate gate = gate("v=DMARC1; p=reject" + tags);
        gate.text("b.a.com", "v=spf1 all");
        gate.sender("x@b.a.com", 1);
        Gate.due("SENDER, with" + tags, wish(gate, Letter.FROM), sender);
        gate.sender("x@other.net", 1);
        gate.text("k._domainkey.b.a.com", Letter.KEY);
        String own = Letter.own("", Letter.BODY).replace("d=a.com", "d=b.a.com");
        String text = Letter.with(own + Letter.SIGNER.signed(Letter.FROM + "\n" + own));
        Gate.due("SEAL, with" + tags, wish(gate, text), seal);
    }

    private static void tags() {
        Document.says("TAGS, without WHITE and byte 10 (BROKEN 6 if it is none): p none, quarantine, reject (BROKEN"
                + " 6 else); sp, if the domain was not found itself, likewise; adkim, aspf: s strict, else not.");
        dueRecord("v=DMARC1;p=none", 7, 7);
        dueRecord("v=DMARC1;p=quarantine;", 8, 8);
        dueRecord("v=DMARC1 ;\n p = rej ect\t; ", 9, 9);
        dueRecord("v=DMARC1;p=none;;", 6, 6);
        dueRecord("v=DMARC1;p=none;p=none", 6, 6);
        dueRecord("v=DMARC1;p=none;P=none", 6, 6);
        dueRecord("v=DMARC1;p=none;abcdefghi=", 6, 6);
        dueRecord("v=DMARC1;p=none;abcdefgh=", 7, 7);
        dueRecord("v=DMARC1", 6, 6);
        dueRecord("v=DMARC1;", 6, 6);
        dueRecord("v=DMARC1;p", 6, 6);
        dueRecord("v=DMARC1;p=", 6, 6);
        dueRecord("v=DMARC1;p=None", 6, 6);
        dueRecord("v=DMARC1;p=rejects", 6, 6);
        dueRecord("v=DMARC1;sp=none", 6, 6);
        dueRecord("v=DMARC1;p=none;sp=reject", 7, 9);
        dueRecord("v=DMARC1;sp=none;p=reject", 9, 7);
        dueRecord("v=DMARC1;p=reject;sp=quarantine", 9, 8);
        dueRecord("v=DMARC1;p=reject;sp=x", 9, 6);
        dueRecord("v=DMARC1;p=reject;sp=", 9, 6);
        dueRecord("v=DMARC1;p=x;sp=none", 6, 6);
        dueStrict("", 2, 2);
        dueStrict("; aspf=s", 9, 2);
        dueStrict("; adkim=s", 2, 9);
        dueStrict("; adkim=s; aspf=s", 9, 9);
        dueStrict("; adkim=r; aspf=r", 2, 2);
        dueStrict("; adkim=S; aspf=ss", 2, 2);
        dueStrict("; adkim=; aspf=", 2, 2);
    }

    /** Whether x@ the one, permitted, is ALIGNED with From: x@ the other. */
    private static void dueAligned(String sender, String from, String suffix, boolean strict, boolean due) {
        Gate gate = new Gate();
        gate.text(sender, "v=spf1 all");
        gate.sender("x@" + sender, 1);
        gate.text("_dmarc." + from, "v=DMARC1; p=reject" + (strict ? "; aspf=s" : ""));
        if (!suffix.isEmpty()) {
            gate.suffix(suffix);
        }
        Gate.due(sender + " and " + from + (strict ? ", strict" : ""), wish(gate, "From: x@" + from), due ? 2 : 9);
    }

    private static void aligned() {
        Document.says("ALIGNED: strict: the same NAME; else of the same HOUSE.");
        for (boolean strict : new boolean[] {true, false}) {
            dueAligned("a.com", "a.com", "", strict, true);
            dueAligned("b.a.com", "a.com", "", strict, !strict);
            dueAligned("a.com", "b.a.com", "", strict, !strict);
            dueAligned("b.a.com", "c.a.com", "", strict, !strict);
            dueAligned("a.com", "b.com", "", strict, false);
            dueAligned("ba.com", "a.com", "", strict, false);
            dueAligned("a.com", "a.net", "", strict, false);
            dueAligned("x.co.uk", "y.co.uk", "", strict, !strict);
            dueAligned("x.co.uk", "y.co.uk", "co.uk", strict, false);
            dueAligned("y.x.co.uk", "x.co.uk", "co.uk", strict, !strict);
            dueAligned("x.co.uk", "co.uk", "co.uk", strict, false);
            dueAligned("co.uk", "co.uk", "co.uk", strict, true);
        }
    }

    private static void answers() {
        Document.says("PASS 2 if PERMISSION is PASS and the SENDER's DOMAIN ALIGNED, or some SEAL is PASS and its d"
                + " ALIGNED; else by p (sp, if it is there): none 7, quarantine 8, reject 9.");
        String[] wants = {"none", "quarantine", "reject"};
        for (int i = 0; i < 3; i++) {
            Gate gate = gate("v=DMARC1; p=" + wants[i]);
            gate.text(Letter.KEY_NAME, Letter.KEY);
            Gate.due("neither", wish(gate, Letter.FROM), 7 + i);
            Gate.due("a SEAL", wish(gate, Letter.sealed("")), 2);
            Gate.due("a SEAL that is FAIL", wish(gate, Letter.sealed("").replace("hello", "hallo")), 7 + i);
            Gate.due("a SEAL that was PASS until 4", wish(gate, Letter.sealed("x=4; ")), 7 + i);
            Gate.due("a SEAL that is PASS until 5", wish(gate, Letter.sealed("x=5; ")), 2);
            String right = Letter.sealed("").substring(Letter.FROM.length() + 1);
            Gate.due("the second SEAL", wish(gate, Letter.FROM + "\ndkim-signature: x\n" + right), 2);
            int end = right.indexOf("\n") + 1;
            String first = right.substring(0, end) + Letter.FROM + "\n" + right.substring(end);
            Gate.due("the SEAL before the FIELD from", wish(gate, first), 2);
            gate.text("k._domainkey.b.com", Letter.KEY);
            String own = Letter.own("", Letter.BODY).replace("d=a.com", "d=b.com");
            String other = own + Letter.SIGNER.signed(Letter.FROM + "\n" + own);
            Gate.due("a SEAL of another HOUSE", wish(gate, Letter.with(other)), 7 + i);
            Gate.due("one of another HOUSE, and one", wish(gate, Letter.FROM + "\n" + other + "\n" + right), 2);
            gate.text("other.net", "v=spf1 all");
            Gate.due("a permitted SENDER of another HOUSE", wish(gate, Letter.FROM), 7 + i);
            gate.sender("x@a.com", 1);
            Gate.due("a SENDER without PERMISSION", wish(gate, Letter.FROM), 7 + i);
            for (String sign : new String[] {"?", "~", "-"}) {
                Gate gate2 = gate("v=DMARC1; p=" + wants[i]);
                gate2.text("a.com", "v=spf1 " + sign + "all");
                gate2.sender("x@a.com", 1);
                Gate.due("a SENDER by " + sign + "all", wish(gate2, Letter.FROM), 7 + i);
            }
            gate.text("a.com", "v=spf1 all");
            Gate.due("a permitted SENDER", wish(gate, Letter.FROM), 2);
            Gate under = gate("v=DMARC1; p=reject; sp=" + wants[i]);
            Gate.due("by sp", wish(under, "From: x@b.a.com"), 7 + i);
            Gate.due("by p", wish(under, "From: x@a.com"), 9);
        }
    }
}
