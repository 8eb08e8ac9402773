/** Promises 6 (sender), 7 (permission) and 8 (cost). */
public final class PermissionTest {
    private static final int HERE = 0xC0000201;
    private static final String PART = "abcdefghij0123456789";

    public static void main(String[] args) {
        sender();
        records();
        terms();
        signs();
        nets();
        addresses();
        exchanges();
        exists();
        includes();
        redirects();
        macros();
        counts();
        voids();
        trouble();
        Gate.finish("PermissionTest");
    }

    private static Gate at(int address, String... texts) {
        Gate gate = new Gate();
        for (int i = 0; i < texts.length; i += 2) {
            gate.text(texts[i], texts[i + 1]);
        }
        gate.sender("joe@a.com", address);
        return gate;
    }

    private static void due(String text, int want) {
        Gate.due(text, at(HERE, "a.com", text).gate.permission(), want);
    }

    private static void dueCost(String what, Gate gate, int answer, int counted, int voids) {
        Gate.due(what, gate.gate.permission(), answer);
        Gate.due(what + ": COUNTED", gate.gate.cost(0), counted);
        Gate.due(what + ": VOID", gate.gate.cost(1), voids);
    }

    private static void sender() {
        Gate gate = new Gate();
        for (String text : new String[] {"", "@", "x", "x@", "@a.com", "X@a.com", "x@A.com", "x@y@a.com", "x y@a.com",
            "x@a..com", "x@a.com ", "x!@a.com", "x".repeat(31) + "@a.com", "x@" + PART + "x", "x\u00e4@a.com"}) {
            Gate.due("sender " + text, gate.sender(text, 1), -1);
            Gate.due("no SENDER", gate.gate.permission(), -1);
        }
        Gate.due("a LOCAL of 30", gate.sender(".-_+" + "x".repeat(25) + "9@a.com", 1), 0);
        gate.text("a.com", "v=spf1 ip4:0.0.0.1 -all");
        Gate.due("the SENDER's address", gate.gate.permission(), 2);
        Gate.due("a wrong SENDER", gate.sender("X@b.com", 2), -1);
        Gate.due("the one before stays", gate.gate.permission(), 2);
        Gate.due("another SENDER", gate.sender("x@a.com", 2), 0);
        Gate.due("the new one counts", gate.gate.permission(), 3);
        Gate.due("a NAME of 60", gate.sender("x@" + PART + "." + PART + "." + PART.substring(2), 2), 0);
        Gate.due("it has no TEXT", gate.gate.permission(), 0);
    }

    private static void records() {
        due("v=spf1", 1);
        due("v=spf1 ", 1);
        due("v=spf1 all", 2);
        due("v=spf1   -all  ", 3);
        due("v=spf1x -all", 0);
        due("v=spf10 -all", 0);
        due("V=spf1 -all", 0);
        due(" v=spf1 -all", 0);
        due("v=spf1\t-all", 0);
        due("", 0);
        due("v=spf", 0);
        Gate.due("two", at(HERE, "a.com", "v=spf1 all", "a.com", "v=spf1").gate.permission(), 6);
        Gate.due("three", at(HERE, "a.com", "v=spf1", "a.com", "v=spf1", "a.com", "v=spf1").gate.permission(), 6);
        Gate.due("one and others", at(HERE, "a.com", "x", "a.com", "v=spf1 ~all", "a.com", "v=spf1-all").gate.permission(),
                4);
        Gate.due("another NAME's", at(HERE, "b.com", "v=spf1 all", "x.a.com", "v=spf1 all").gate.permission(), 0);
    }

    private static void terms() {
        String[] right = {"all", "a:a.com/0", "mx/32", "ip4:0.0.0.0/00", "ip4:255.255.255.255", "ip4:001.02.3.4/5",
            "exp=", "exp=%{", "x=\u00ff\t", "a=b", "a-b_c.9=d=e", "redirec=x", "all=all", "include=x", "redirect-=x", "exists:~!", "exists:%%%%", "exists:%%%_%-%{d}", "a:~", "a:.0"};
        for (String term : right) {
            due("v=spf1 ip4:192.0.2.1 " + term, 2);
        }
        String[] wrong = {"x", "al", "alls", "All", "all:", "all/1", "+", "++all", "*all", "include", "include:",
            "include:\u00ff", "include:\u007f", "include:a\u001f", "include:a\t", "include:%", "include:a%", "include:%{d", "include:%{d0}", "include:%{dr2}",
            "include:%{x}", "include:%{D}", "include:%{d22}", "include:%{d2rr}", "include:%a", "include:%%%", "include:%{}", "a:",
            "a:/24", "a/", "a/33", "a/032", "a/x", "a/-1", "a:b/c", "a:b/24/24", "ab", "mxx", "mx:", "mx/99", "m", "ip4",
            "ip4:", "ip4:1.2.3", "ip4:1.2.3.4.5", "ip4:1.2.3.256", "ip4:1.2.3.0004", "ip4:1..3.4", "ip4:1.2.3.4/",
            "ip4:1.2.3.4/33", "ip4:1.2.3.x", "ip4:.1.2.3", "exists", "exists:", "redirect=", "redirect=%",
            "+redirect=b.com", "-x=y", "X=y", "x+y=z", "=", "9x=y", "-a=b", "ptr", "ip6:::1", "a\t"};
        for (String term : wrong) {
            due("v=spf1 ip4:192.0.2.1 " + term, 6);
            due("v=spf1 " + term + " all", 6);
        }
        due("v=spf1 all redirect=b.com", 2);
        due("v=spf1 all redirect=b.com redirect=b.com", 6);
        due("v=spf1 all exp=a exp=b", 2);
        dueCost("what is wrong is seen first", at(HERE, "a.com", "v=spf1 a mx a:b.com x"), 6, 0, 0);
    }

    private static void signs() {
        due("v=spf1 +all", 2);
        due("v=spf1 all", 2);
        due("v=spf1 ?all", 1);
        due("v=spf1 ~all", 4);
        due("v=spf1 -all", 3);
        due("v=spf1 ?ip4:192.0.2.1 -all", 1);
        due("v=spf1 ~ip4:192.0.2.1 +all", 4);
        due("v=spf1 -ip4:192.0.2.2 +all", 2);
        due("v=spf1 -all +all", 3);
        due("v=spf1 ip4:10.0.0.0/8", 1);
    }

    private static void nets() {
        due("v=spf1 ip4:192.0.2.1 -all", 2);
        due("v=spf1 ip4:192.0.2.0 -all", 3);
        due("v=spf1 ip4:192.0.2.0/31 -all", 2);
        due("v=spf1 ip4:192.0.2.2/31 -all", 3);
        due("v=spf1 ip4:192.0.2.2/30 -all", 2);
        due("v=spf1 ip4:64.0.2.1/1 -all", 3);
        due("v=spf1 ip4:128.0.0.0/1 -all", 2);
        due("v=spf1 ip4:1.1.1.1/0 -all", 2);
        due("v=spf1 ip4:192.255.255.255/8 -all", 2);
        due("v=spf1 ip4:192.0.3.1/24 -all", 3);
        Gate.due("0.0.0.0", at(0, "a.com", "v=spf1 ip4:0.0.0.0 -all").gate.permission(), 2);
        Gate.due("255.255.255.255", at(-1, "a.com", "v=spf1 ip4:255.255.255.255/32 -all").gate.permission(), 2);
    }

    private static void addresses() {
        Gate gate = at(HERE, "a.com", "v=spf1 a -all");
        dueCost("a without an ADDRESS", gate, 3, 1, 1);
        gate.address("a.com", HERE + 1);
        dueCost("a with another ADDRESS", gate, 3, 1, 0);
        gate.address("a.com", HERE);
        dueCost("a with two ADDRESSES", gate, 2, 1, 0);
        gate = at(HERE, "a.com", "v=spf1 ?a:b.com/24 -all");
        gate.address("b.com", HERE + 200);
        dueCost("a with bits", gate, 1, 1, 0);
        gate = new Gate();
        gate.address("a.com", HERE);
        gate.text("a.com", "v=spf1 a -all");
        gate.sender("joe@a.com", HERE);
        dueCost("an ADDRESS as the first entry", gate, 2, 1, 0);
        gate = at(HERE, "a.com", "v=spf1 a/0 -all");
        dueCost("no ADDRESS, no match, for any bits", gate, 3, 1, 1);
        gate.address("a.com", 5);
        dueCost("any ADDRESS with 0 bits", gate, 2, 1, 0);
    }

    private static void exchanges() {
        Gate gate = at(HERE, "a.com", "v=spf1 mx -all");
        gate.address("a.com", HERE);
        dueCost("mx without an EXCHANGE", gate, 3, 1, 1);
        gate.exchange("a.com", "m.com");
        dueCost("an EXCHANGE without an ADDRESS is no VOID", gate, 3, 1, 0);
        gate.exchange("a.com", "n.com");
        gate.address("m.com", HERE + 1);
        gate.address("n.com", HERE);
        dueCost("the second EXCHANGE", gate, 2, 1, 0);
        gate = at(HERE, "a.com", "v=spf1 ~mx:b.com/16 -all");
        gate.exchange("b.com", "m.com");
        gate.address("m.com", 0xC000FFFF);
        dueCost("mx with a D and bits", gate, 4, 1, 0);
        gate = new Gate();
        gate.exchange("a.com", "m.com");
        gate.address("m.com", HERE);
        gate.text("a.com", "v=spf1 mx -all");
        gate.sender("joe@a.com", HERE);
        dueCost("an EXCHANGE as the first entry", gate, 2, 1, 0);
        gate = at(HERE, "a.com", "v=spf1 mx -all");
        gate.exchange("a.com", "m.com");
        gate.exchange("m.com", "n.com");
        gate.address("n.com", HERE);
        dueCost("EXCHANGES are not followed further", gate, 3, 1, 0);
    }

    private static void exists() {
        Gate gate = at(HERE, "a.com", "v=spf1 exists:b.com -all");
        dueCost("exists without", gate, 3, 1, 1);
        gate.address("b.com", 99);
        dueCost("exists with any ADDRESS", gate, 2, 1, 0);
        dueCost("exists of what is no NAME", at(HERE, "a.com", "v=spf1 exists:B.com -all"), 3, 1, 1);
        dueCost("exists with a slash", at(HERE, "a.com", "v=spf1 exists:a.com/24 -all"), 3, 1, 1);
    }

    private static void includes() {
        String[] ends = {"+all", "?all", "~all", "-all", "", "x"};
        int[] answers = {4, 3, 3, 3, 3, 6};
        for (int i = 0; i < ends.length; i++) {
            Gate gate = at(HERE, "a.com", "v=spf1 ~include:b.com -all", "b.com", "v=spf1 " + ends[i]);
            dueCost("include with " + ends[i], gate, answers[i], 1, 0);
        }
        dueCost("include without a TEXT", at(HERE, "a.com", "v=spf1 include:b.com all"), 6, 1, 0);
        dueCost("include of no NAME", at(HERE, "a.com", "v=spf1 include:%{s} all"), 6, 1, 0);
        dueCost("include of two", at(HERE, "a.com", "v=spf1 include:b.com all", "b.com", "v=spf1", "b.com", "v=spf1"), 6,
                1, 0);
        Gate gate = at(HERE, "a.com", "v=spf1 include:b.com -all", "b.com", "v=spf1 a");
        gate.address("b.com", HERE);
        dueCost("a within is of the NAME that is checked", gate, 2, 2, 0);
        gate = at(HERE, "a.com", "v=spf1 include:b.com -ip4:192.0.2.1", "b.com", "v=spf1 include:c.com", "c.com",
                "v=spf1 -all");
        dueCost("the SIGN is kept over what is within", gate, 3, 2, 0);
    }

    private static void redirects() {
        dueCost("redirect", at(HERE, "a.com", "v=spf1 redirect=b.com", "b.com", "v=spf1 ~all"), 4, 1, 0);
        dueCost("redirect before others", at(HERE, "a.com", "v=spf1 redirect=b.com ip4:1.1.1.1", "b.com", "v=spf1 -all"),
                3, 1, 0);
        dueCost("a match first", at(HERE, "a.com", "v=spf1 redirect=b.com ?ip4:192.0.2.1"), 1, 0, 0);
        dueCost("redirect with all", at(HERE, "a.com", "v=spf1 redirect=b.com -all", "b.com", "v=spf1 +all"), 3, 0, 0);
        dueCost("redirect to nothing", at(HERE, "a.com", "v=spf1 redirect=b.com"), 6, 1, 0);
        dueCost("redirect to NEUTRAL", at(HERE, "a.com", "v=spf1 redirect=b.com", "b.com", "v=spf1"), 1, 1, 0);
        Gate gate = at(HERE, "a.com", "v=spf1 include:b.com -all", "b.com", "v=spf1 redirect=c.com", "c.com",
                "v=spf1 all");
        dueCost("redirect within include", gate, 2, 2, 0);
        dueCost("a circle", at(HERE, "a.com", "v=spf1 redirect=a.com"), 6, 11, 0);
    }

    /** The D, as the gate makes it, has an ADDRESS. */
    private static void becomes(String sender, int address, String host, String name) {
        Gate gate = new Gate();
        gate.sender(sender, address);
        gate.text(sender.substring(sender.indexOf('@') + 1), "v=spf1 exists:" + host + " -all");
        Gate.due(host + " before", gate.gate.permission(), 3);
        gate.address(name, 0);
        Gate.due(host + " is " + name, gate.gate.permission(), 2);
    }

    private static void macros() {
        String sender = "j.o.e@x.a.com";
        becomes(sender, HERE, "%{l}.q", "j.o.e.q");
        becomes(sender, HERE, "%{lr}.q", "e.o.j.q");
        becomes(sender, HERE, "%{l2}.q", "o.e.q");
        becomes(sender, HERE, "%{l2r}.q", "o.j.q");
        becomes(sender, HERE, "%{l1}", "e");
        becomes(sender, HERE, "%{l1r}", "j");
        becomes(sender, HERE, "%{l9r}-%{d1}", "e.o.j-com");
        becomes(sender, HERE, "%{o}", "x.a.com");
        becomes(sender, HERE, "%{d}", "x.a.com");
        becomes(sender, HERE, "%{d2}", "a.com");
        becomes(sender, HERE, "%{i}.q", "192.0.2.1.q");
        becomes(sender, HERE, "%{ir}.q", "1.2.0.192.q");
        becomes(sender, HERE, "%{i1}%{i2r}", "10.192");
        becomes(sender, -1, "%{i}", "255.255.255.255");
        becomes(sender, 0x000A6409, "%{i}", "0.10.100.9");
        becomes(sender, HERE, "%{s1}", "com");
        becomes("a.b.c.d.e.f.g.h.i.j@x", HERE, "%{l9}", "b.c.d.e.f.g.h.i.j");
        becomes("a.b.c.d.e.f.g.h.i.j@x", HERE, "%{l8r}", "h.g.f.e.d.c.b.a");
        becomes(".o@x.a.com", HERE, "%{lr}q", "o.q");
        becomes("o.@x.a.com", HERE, "q%{lr}", "q.o");
        becomes("o..p@x.a.com", HERE, "%{l1}%{l1r}", "po");
        becomes(sender, HERE, "%{s1r}.q", "j.q");
        becomes(sender, HERE, "%{d}.".repeat(7) + "abcd", "x.a.com.".repeat(7) + "abcd");
        for (String host : new String[] {"%%", "%_", "a%_b", "%-", "a.%-", "%{s}", "%{l}..q", ".%{d}", "A%{d}",
            "%{d}.".repeat(10) + "b", "%%{d}"}) {
            Gate gate = at(HERE, "a.com", "v=spf1 exists:" + host + " -all");
            dueCost(host + " is no NAME", gate, 3, 1, 1);
        }
        Gate gate = at(HERE, "a.com", "v=spf1 include:b.%{d} -all", "b.a.com", "v=spf1 exists:%{d2r}.%{o} -all");
        gate.address("a.b.a.com", 1);
        dueCost("d is what is checked, o the SENDER's", gate, 2, 2, 0);
        gate = at(HERE, "a.com", "v=spf1 redirect=%{l}.%{d}", "joe.a.com", "v=spf1 ~a:%{d1} -all");
        gate.address("com", HERE);
        dueCost("a MACRO in redirect and a", gate, 4, 2, 0);
        gate = at(HERE, "a.com", "v=spf1 mx:%{d1}/24 -all");
        gate.exchange("com", "m.com");
        gate.address("m.com", HERE + 9);
        dueCost("a MACRO in mx", gate, 2, 1, 0);
    }

    private static void counts() {
        Gate gate = at(HERE, "a.com", "v=spf1" + " a:b.com".repeat(10) + " ~all");
        gate.address("b.com", 1);
        dueCost("ten", gate, 4, 10, 0);
        gate = at(HERE, "a.com", "v=spf1" + " a:b.com".repeat(11) + " ~all");
        gate.address("b.com", 1);
        dueCost("eleven", gate, 6, 11, 0);
        gate = at(HERE, "a.com", "v=spf1" + " a:b.com".repeat(10) + " redirect=c.com", "c.com", "v=spf1 all");
        gate.address("b.com", 1);
        dueCost("redirect as the eleventh", gate, 6, 11, 0);
        dueCost("include in a circle", at(HERE, "a.com", "v=spf1 include:a.com -all"), 6, 11, 0);
        gate = at(HERE, "a.com", "v=spf1" + " ip4:1.1.1.1".repeat(30) + " x=y all");
        dueCost("what does not count", gate, 2, 0, 0);
        gate = at(HERE, "a.com", "v=spf1 include:b.com include:b.com include:b.com all", "b.com", "v=spf1 a a a");
        gate.address("b.com", 1);
        dueCost("those within count, too", gate, 6, 11, 0);
        Gate deep = new Gate();
        deep.sender("x@n0", HERE);
        for (int i = 0; i < 10; i++) {
            deep.text("n" + i, "v=spf1 include:n" + (i + 1) + " -all");
        }
        deep.text("n10", "v=spf1 ip4:192.0.2.1");
        dueCost("ten levels of include", deep, 2, 10, 0);
        Gate.due("cost(2)", deep.gate.cost(2), -1);
        Gate.due("cost(-1)", deep.gate.cost(-1), -1);
        Gate.due("cost(MIN)", deep.gate.cost(Integer.MIN_VALUE), -1);
        deep.sender("x@q", HERE);
        Gate.due("the latest PERMISSION's, as long as there is no other", deep.gate.cost(0), 10);
        dueCost("no TEXT", deep, 0, 0, 0);
    }

    private static void voids() {
        dueCost("two", at(HERE, "a.com", "v=spf1 a:b.com exists:b.com all"), 2, 2, 2);
        dueCost("three", at(HERE, "a.com", "v=spf1 a:b.com exists:b.com mx all"), 6, 3, 3);
        dueCost("include's", at(HERE, "a.com", "v=spf1 a mx include:b.com all", "b.com", "v=spf1 exists:c.com all"), 6, 4,
                3);
        Gate gate = at(HERE, "a.com", "v=spf1 mx -all");
        gate.exchange("a.com", "b.com");
        gate.exchange("a.com", "c.com");
        gate.exchange("a.com", "d.com");
        dueCost("the exchanges' own are not counted", gate, 3, 1, 0);
    }

    private static void trouble() {
        Gate gate = at(HERE, "a.com", "v=spf1 all");
        gate.trouble("a.com");
        dueCost("of the DOMAIN", gate, 5, 0, 0);
        for (String term : new String[] {"a:b.com", "mx:b.com", "exists:b.com", "include:b.com", "redirect=b.com"}) {
            gate = at(HERE, "a.com", "v=spf1 " + term, "b.com", "v=spf1 all");
            gate.address("b.com", HERE);
            gate.exchange("b.com", "b.com");
            Gate.due(term + " without TROUBLE", gate.gate.permission(), 2);
            gate.trouble("b.com");
            dueCost(term + " with TROUBLE", gate, 5, 1, 0);
        }
        gate = at(HERE, "a.com", "v=spf1 mx all");
        gate.exchange("a.com", "m.com");
        gate.exchange("a.com", "n.com");
        gate.trouble("n.com");
        dueCost("of an exchange", gate, 5, 1, 0);
        gate.address("m.com", HERE);
        dueCost("of an exchange that is not reached", gate, 2, 1, 0);
        gate = at(HERE, "a.com", "v=spf1 include:b.com all", "b.com", "v=spf1 a:c.com");
        gate.trouble("c.com");
        dueCost("within include", gate, 5, 2, 0);
        gate = at(HERE, "a.com", "v=spf1 all a:c.com");
        gate.trouble("c.com");
        dueCost("behind a match", gate, 2, 0, 0);
    }
}
