/** The sentences that tell which TERM matches, and what becomes of D. */
final class CheckSentences {
    private static final int HERE = World.HERE;

    private CheckSentences() {
    }

    static void ask() {
        order();
        nets();
        counts();
        includes();
        addresses();
        exists();
        exchanges();
        voids();
        redirects();
        signs();
        letters();
        parts();
        noName();
    }

    private static void order() {
        Document.says("The TERMS but redirect and WORD=VALUE, in their order; the first that MATCHES gives PASS,"
                + " NEUTRAL, SOFT, FAIL by its SIGN + ? ~ -.");
        World.due("v=spf1 ?all ~all -all +all", 1);
        World.due("v=spf1 ~all -all +all ?all", 4);
        World.due("v=spf1 -all +all ?all ~all", 3);
        World.due("v=spf1 +all ?all ~all -all", 2);
        World.due("v=spf1 -a:far.com ~mx:none.com ?a:here.com -all", 1, 3, 1);
        World.due("v=spf1 redirect=fail.com x=y ~ip4:192.0.2.1", 4, 0, 0);
        Document.says("all matches.");
        for (int address : new int[] {0, 1, -1, Integer.MIN_VALUE, HERE}) {
            Gate gate = World.of("v=spf1 all");
            gate.sender("x@a.com", address);
            Gate.due("all, for " + address, gate.gate.permission(), 2);
        }
    }

    private static void nets() {
        Document.says("ip4: the first N bits of the SENDER's address are Q's.");
        for (int bits = 0; bits <= 32; bits++) {
            Gate gate = World.of("v=spf1 ip4:192.0.2.1/" + bits + " -all");
            for (int bit = 1; bit <= 32; bit++) {
                gate.sender("x@a.com", HERE ^ 1 << 32 - bit);
                Gate.due("/" + bits + ", bit " + bit + " another", gate.gate.permission(), bit <= bits ? 3 : 2);
            }
            gate.sender("x@a.com", HERE);
            Gate.due("/" + bits + ", the same", gate.gate.permission(), 2);
        }
    }

    private static void counts() {
        Document.says("Those that follow COUNT 1 each, and more than 10 are BROKEN, at once:");
        String ten = " a:far.com mx:mail.com/32 exists:none.com include:fail.com a:far.com a:far.com a:far.com"
                + " a:far.com"
                + " a:far.com a:far.com";
        World.due("v=spf1" + ten.replace("mx:mail.com/32", "mx:none.com") + " ~all", 4, 10, 2);
        World.due("v=spf1" + ten.replace("mx:mail.com/32", "mx:none.com") + " a:here.com all", 6, 11, 2);
        World.due("v=spf1" + " a:far.com".repeat(9) + " a:here.com", 2, 10, 0);
        World.due("v=spf1" + " a:far.com".repeat(10) + " a:here.com", 6, 11, 0);
        World.due("v=spf1" + " a:far.com".repeat(10) + " a:bad.com", 6, 11, 0);
        World.due("v=spf1" + " a:far.com".repeat(10) + " ip4:192.0.2.1 a:bad.com", 2, 10, 0);
        World.due("v=spf1" + " ip4:1.2.3.4".repeat(20) + " x=y ~all", 4, 0, 0);
        World.due("v=spf1" + " include:fail.com".repeat(10) + " ~all", 4, 10, 0);
        World.due("v=spf1" + " include:fail.com".repeat(10) + " include:pass.com", 6, 11, 0);
        World.due("v=spf1 include:a.com", 6, 11, 0);
        World.due("v=spf1 redirect=a.com", 6, 11, 0);
        Gate gate = World.of("v=spf1 include:c.com include:c.com ~all");
        gate.text("c.com", "v=spf1 a:far.com a:far.com a:far.com a:far.com");
        Gate.due("four in each of two", gate.gate.permission(), 4);
        Gate.due("four in each of two, COUNTED", gate.gate.cost(0), 10);
        gate.gate.forget();
        gate = World.of("v=spf1 include:c.com include:c.com a:far.com ~all");
        gate.text("c.com", "v=spf1 a:far.com a:far.com a:far.com a:far.com");
        Gate.due("and one more", gate.gate.permission(), 6);
    }

    private static void includes() {
        Document.says("include: CHECK of D: PASS: it matches; TROUBLE, BROKEN: that at once; NONE: BROKEN.");
        World.due("v=spf1 ?include:pass.com -all", 1, 1, 0);
        World.due("v=spf1 ?include:neutral.com -all", 3, 1, 0);
        World.due("v=spf1 ?include:soft.com -all", 3, 1, 0);
        World.due("v=spf1 ?include:fail.com -all", 3, 1, 0);
        World.due("v=spf1 ?include:bad.com all", 5, 1, 0);
        World.due("v=spf1 ?include:broken.com all", 6, 1, 0);
        World.due("v=spf1 ?include:none.com all", 6, 1, 0);
        World.due("v=spf1 ?include:here.com all", 6, 1, 0);
    }

    private static void addresses() {
        Document.says("a: ADDRESSES of D (d without): TROUBLE at once; the first N bits of one are the SENDER's.");
        World.due("v=spf1 a:here.com -all", 2, 1, 0);
        World.due("v=spf1 a:near.com -all", 3, 1, 0);
        World.due("v=spf1 a:near.com/24 -all", 2, 1, 0);
        World.due("v=spf1 a:near.com/25 -all", 3, 1, 0);
        World.due("v=spf1 a:far.com/0 -all", 2, 1, 0);
        World.due("v=spf1 a:bad.com all", 5, 1, 0);
        World.due("v=spf1 a:mail.com -all", 3, 1, 1);
        Gate gate = World.of("v=spf1 a/31 -all");
        gate.address("a.com", 1);
        gate.address("a.com", HERE ^ 1);
        Gate.due("d, and the second of it", gate.gate.permission(), 2);
        gate = World.of("v=spf1 include:c.com -all");
        gate.text("c.com", "v=spf1 a");
        gate.address("a.com", HERE);
        Gate.due("d is not the SENDER's DOMAIN within an include", gate.gate.permission(), 3);
        gate.address("c.com", HERE);
        Gate.due("d is the NAME that is checked", gate.gate.permission(), 2);
    }

    private static void exists() {
        Document.says("exists: D has an ADDRESS (TROUBLE at once).");
        World.due("v=spf1 exists:far.com -all", 2, 1, 0);
        World.due("v=spf1 exists:mail.com -all", 3, 1, 1);
        World.due("v=spf1 exists:pass.com -all", 3, 1, 1);
        World.due("v=spf1 exists:bad.com all", 5, 1, 0);
    }

    private static void exchanges() {
        Document.says("mx: EXCHANGES of D (d without), in their order, as a with each of them.");
        World.due("v=spf1 mx:mail.com -all", 2, 1, 0);
        World.due("v=spf1 mx:here.com -all", 3, 1, 1);
        Gate gate = World.of("v=spf1 mx/24 -all");
        Gate.due("d without one", gate.gate.permission(), 3);
        gate.exchange("a.com", "near.com");
        Gate.due("d, by its first bits", gate.gate.permission(), 2);
        gate = World.of("v=spf1 mx -all");
        gate.exchange("a.com", "near.com");
        Gate.due("d, by all bits", gate.gate.permission(), 3);
        gate.exchange("a.com", "here.com");
        gate.exchange("a.com", "bad.com");
        Gate.due("the second, before TROUBLE", gate.gate.permission(), 2);
        gate.sender("x@a.com", 1);
        Gate.due("the third, TROUBLE", gate.gate.permission(), 5);
    }

    private static void voids() {
        Document.says("VOID is counted, too: a, exists, mx whose D has no ADDRESS, ADDRESS, EXCHANGE (not the"
                + " exchanges' own): more than 2: BROKEN, at once.");
        World.due("v=spf1 a:none.com ~all", 4, 1, 1);
        World.due("v=spf1 exists:none.com ~all", 4, 1, 1);
        World.due("v=spf1 mx:none.com ~all", 4, 1, 1);
        World.due("v=spf1 a:none.com mx:none.com ~all", 4, 2, 2);
        World.due("v=spf1 a:none.com mx:none.com exists:none.com all", 6, 3, 3);
        World.due("v=spf1 a mx a a:bad.com", 6, 3, 3);
        World.due("v=spf1 a:mail.com ~all", 4, 1, 1);
        World.due("v=spf1 a:far.com exists:far.com mx:mail.com/32", 2, 2, 0);
        Gate gate = World.of("v=spf1 mx mx mx mx ~all");
        gate.exchange("a.com", "none.com");
        Gate.due("the exchanges' own", gate.gate.permission(), 4);
        Gate.due("the exchanges' own, VOID", gate.gate.cost(1), 0);
        gate = World.of("v=spf1 a include:c.com mx ~all");
        gate.text("c.com", "v=spf1 a");
        Gate.due("one of an include, too", gate.gate.permission(), 6);
        Gate.due("one of an include, too, VOID", gate.gate.cost(1), 3);
    }

    private static void redirects() {
        Document.says("If none matches: redirect, if it is there and no all is: COUNT, then CHECK of its D, NONE"
                + " being BROKEN; else NEUTRAL.");
        World.due("v=spf1", 1, 0, 0);
        World.due("v=spf1 a:far.com", 1, 1, 0);
        World.due("v=spf1 redirect=pass.com", 2, 1, 0);
        World.due("v=spf1 redirect=neutral.com", 1, 1, 0);
        World.due("v=spf1 redirect=soft.com", 4, 1, 0);
        World.due("v=spf1 redirect=fail.com a:far.com", 3, 2, 0);
        World.due("v=spf1 redirect=bad.com", 5, 1, 0);
        World.due("v=spf1 redirect=broken.com", 6, 1, 0);
        World.due("v=spf1 redirect=none.com", 6, 1, 0);
        World.due("v=spf1 redirect=fail.com ~all", 4, 0, 0);
        World.due("v=spf1 redirect=fail.com ?a:here.com", 1, 1, 0);
        World.due("v=spf1 redirect=pass.com" + " a:far.com".repeat(9), 2, 10, 0);
        World.due("v=spf1 redirect=pass.com" + " a:far.com".repeat(10), 6, 11, 0);
    }

    /** Whether the D becomes the name, as x.y@a.com at 192.0.2.1 sends; %{d} is c.com, which a.com includes. */
    private static void dueName(String host, String name, boolean becomes) {
        Gate gate = new Gate();
        gate.text("a.com", "v=spf1 include:c.com -all");
        gate.text("c.com", "v=spf1 exists:" + host);
        gate.address(name, 1);
        gate.sender("x.y@a.com", HERE);
        Gate.due(host + " as " + name, gate.gate.permission(), becomes ? 2 : 3);
    }

    private static void signs() {
        Document.says("D is what becomes of it: MACRO %% is %, %_ a blank, %- the signs %20;");
        dueName("b.com", "b.com", true);
        for (String macro : new String[] {"%%", "%_", "%-"}) {
            for (String name : new String[] {"bb", "b20b", "b-b", "b_b", "b.b", "b", "bc.comb", "ba.comb", "bx.yb"}) {
                dueName("b" + macro + "b", name, false);
            }
        }
        dueName("b%%{d}b", "b", false);
    }

    private static void letters() {
        Document.says("%{X[n][r]}: of X: s LOCAL, @ and DOMAIN; l LOCAL; o DOMAIN; d the NAME that is checked; i"
                + " the address, four numbers with . between;");
        dueName("%{l}", "x.y", true);
        dueName("%{o}", "a.com", true);
        dueName("%{d}", "c.com", true);
        dueName("%{i}", "192.0.2.1", true);
        dueName("%{s}", "x.y", false);
        dueName("%{s}", "x.y.a.com", false);
        // Parted at each ., x.y@a.com is x, y@a and com, of which the middle one is in no NAME.
        dueName("%{s1}", "com", true);
        dueName("%{s1r}", "x", true);
        dueName("%{l}.%{o}.%{d}.%{i}", "x.y.a.com.c.com.192.0.2.1", true);
        Gate gate = new Gate();
        for (int i = 0; i < 256; i++) {
            int address = i << 24 | (255 - i) << 16 | (i * 7 & 255) << 8 | i;
            String name = i + "." + (255 - i) + "." + (i * 7 & 255) + "." + i;
            gate.gate.forget();
            gate.text("a.com", "v=spf1 exists:%{i} -all");
            gate.address(name, 1);
            gate.sender("x@a.com", address);
            Gate.due("%{i} as " + name, gate.gate.permission(), 2);
        }
    }

    private static void parts() {
        Document.says("parted at each ., with r turned round, of n (a digit, not 0) the last n parts, joined with ."
                + " again.");
        dueName("%{i1}", "1", true);
        dueName("%{i2}", "2.1", true);
        dueName("%{i3}", "0.2.1", true);
        dueName("%{i4}", "192.0.2.1", true);
        dueName("%{i5}", "192.0.2.1", true);
        dueName("%{i9}", "192.0.2.1", true);
        dueName("%{ir}", "1.2.0.192", true);
        dueName("%{i1r}", "192", true);
        dueName("%{i2r}", "0.192", true);
        dueName("%{i3r}", "2.0.192", true);
        dueName("%{i4r}", "1.2.0.192", true);
        dueName("%{i9r}", "1.2.0.192", true);
        dueName("%{lr}.%{d1}.%{o1r}", "y.x.com.a", true);
        String eleven = "k.j.i.h.g.f.e.d.c.b.a";
        for (int n = 1; n <= 9; n++) {
            for (String turned : new String[] {"", "r"}) {
                Gate gate = new Gate();
                gate.text(eleven, "v=spf1 exists:%{d" + n + turned + "} -all");
                gate.address(turned.isEmpty()
                        ? eleven.substring(22 - 2 * n) : "c.d.e.f.g.h.i.j.k".substring(18 - 2 * n),
                        1);
                gate.sender("x@" + eleven, 1);
                Gate.due("the last " + n + " of eleven parts " + turned, gate.gate.permission(), 2);
            }
        }
        Gate gate = new Gate();
        gate.text("a.com", "v=spf1 exists:%{l2} -all");
        gate.address("b.c", 1);
        gate.sender("a..b.c@a.com", 1);
        Gate.due("the last two of a, nothing, b, c", gate.gate.permission(), 2);
        gate.sender("b.c.@a.com", 1);
        Gate.due("the last two of b, c, nothing", gate.gate.permission(), 3);
        gate.sender("b.c@a.com", 1);
        Gate.due("the last two of b, c", gate.gate.permission(), 2);
    }

    private static void noName() {
        Document.says("If it is no NAME then: it has no entries.");
        World.due("v=spf1 a:A.com ~all", 4, 1, 1);
        World.due("v=spf1 mx:here.com. ~all", 4, 1, 1);
        World.due("v=spf1 exists:here..com ~all", 4, 1, 1);
        World.due("v=spf1 exists:%{s} ~all", 4, 1, 1);
        World.due("v=spf1 include:pass.com. all", 6, 1, 0);
        World.due("v=spf1 redirect=PASS.com", 6, 1, 0);
        World.due("v=spf1 exists:" + "b".repeat(21) + " ~all", 4, 1, 1);
        for (int length = 58; length <= 64; length++) {
            Gate gate = new Gate();
            String name = Names.ofLength(Math.min(60, length)) + "b".repeat(Math.max(0, length - 60));
            gate.text("a.com", "v=spf1 exists:" + name + " -all");
            gate.address(name.substring(0, Math.min(60, length)), 1);
            gate.sender("x@a.com", 1);
            Gate.due("a NAME of " + length, gate.gate.permission(), length <= 60 ? 2 : 3);
        }
        Gate gate = World.of("v=spf1 exists:" + "%{d}.".repeat(12) + "here.com -all");
        gate.address("a.com." .repeat(8) + "here.com", 1);
        Gate.due("a D that grows beyond all NAMES", gate.gate.permission(), 3);
    }
}
