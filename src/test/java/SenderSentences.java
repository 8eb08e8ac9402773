/** The sentences from THE SENDER to the last kind of TERM. */
final class SenderSentences {
    private static final String[] SIGNS = {"", "+", "?", "~", "-"};
    private static final int[] ANSWERS = {2, 2, 1, 4, 3};

    private SenderSentences() {
    }

    static void ask() {
        sender();
        answers();
        check();
        terms();
        signs();
        nets();
        words();
        hosts();
    }

    private static void sender() {
        Document.says("THE SENDER: an address (an int), a LOCAL part (1 to 30 small letters, digits, . - _ +), and"
                + " a DOMAIN, a NAME; none at first.");
        Gate gate = new Gate();
        Gate.due("none at first", gate.gate.permission(), -1);
        String[] wrong = {"", "@", "x", "@a.com", "x@", "x@@a.com", "x@a..com", "X@a.com", "x@A.com", "x y@a.com",
            "x@a.com ", "x".repeat(31) + "@a.com", "x/y@a.com", "x@y@a.com"};
        for (String text : wrong) {
            Gate.due("no SENDER: " + text, gate.sender(text, 1), -1);
            Gate.due("none still after " + text, gate.gate.permission(), -1);
        }
        String[] right = {"x@a.com", "x".repeat(30) + "@a", ".@a.com", "..@a.com", "a-b_c+d.e0@a.com", "0@0",
            "x@" + Names.LONGEST};
        for (String text : right) {
            Gate.due("a SENDER: " + text, gate.sender(text, 1), 0);
        }
        gate.text("a.com", "v=spf1 ip4:255.255.255.255 -all");
        gate.sender("x@a.com", -1);
        Gate.due("the address -1", gate.gate.permission(), 2);
        gate.sender("x@a.com", Integer.MAX_VALUE);
        Gate.due("the greatest address", gate.gate.permission(), 3);
        // The longest SENDER of all is held whole: its last part is there.
        String domain = Names.LONGEST.substring(0, 57) + ".yz";
        gate.text(domain, "v=spf1 exists:%{s1} -all");
        gate.address("yz", 1);
        Gate.due("a SENDER of 91 bytes", gate.sender("x".repeat(30) + "@" + domain, 1), 0);
        Gate.due("its last part", gate.gate.permission(), 2);
    }

    private static void answers() {
        Document.says("PERMISSION: NONE 0, NEUTRAL 1, PASS 2, FAIL 3, SOFT 4, TROUBLE 5, BROKEN 6.");
        World.due("", 0);
        World.due("v=spf1 ?all", 1);
        World.due("v=spf1 all", 2);
        World.due("v=spf1 -all", 3);
        World.due("v=spf1 ~all", 4);
        World.due("v=spf1 a:bad.com", 5);
        World.due("v=spf1 ?", 6);
    }

    private static void check() {
        Document.says("CHECK of a NAME d: its TEXTS that are v=spf1, or begin with v=spf1 and a blank (32):"
                + " TROUBLE: TROUBLE; none: NONE; two: BROKEN.");
        World.due("v=spf1", 1);
        World.due("v=spf1 ", 1);
        for (String other : new String[] {"v=spf", "v=spf1\t", "v=spf1\tall", "v=spf1,", "v=spf10 all", "V=spf1 all",
            " v=spf1 all", "v=SPF1 all", "v=spf2 all"}) {
            World.due(other, 0);
            Gate gate = World.of("v=spf1 all");
            gate.text("a.com", other);
            Gate.due("one, and " + other, gate.gate.permission(), 2);
        }
        for (String second : new String[] {"v=spf1", "v=spf1 all", "v=spf1 x"}) {
            Gate gate = World.of("v=spf1 all");
            gate.text("a.com", second);
            Gate.due("one, and " + second, gate.gate.permission(), 6);
            gate.text("a.com", second);
            Gate.due("three, the last " + second, gate.gate.permission(), 6);
            gate.trouble("a.com");
            Gate.due("with TROUBLE", gate.gate.permission(), 5);
        }
    }

    private static void terms() {
        Document.says("Behind, with blanks between, TERMS; one that is none of these: BROKEN:");
        World.due("v=spf1 -a:here.com all", 3);
        World.due("v=spf1   -a:here.com   all   ", 3);
        for (String term : new String[] {"x", "al", "alll", "ALL", "a:", "all:", "all/24", "include", "include:",
            "mx:", "exists",
            "exists:", "ip4", "ip4:", "ptr", "ip6:::1", "redirect", "redirect:b.com", "=", "=x", "?", "-", "--all",
            "+-all", "a\tmx", ",", "a,", "a:b.com\t", "ip4:1.2.3.4,"}) {
            World.dueWrong(term);
        }
        Document.says("[SIGN] all,");
        kind("all", ANSWERS);
        Document.says("[SIGN] include:D,");
        kind("include:pass.com", ANSWERS);
        kindWithout("include:fail.com");
        Document.says("[SIGN] a[:D][/N],");
        kind("a:here.com", ANSWERS);
        kind("a:near.com/24", ANSWERS);
        kindWithout("a:near.com");
        kindWithout("a");
        kindWithout("a/0");
        Document.says("[SIGN] mx[:D][/N],");
        kind("mx:mail.com", ANSWERS);
        kind("mx:mail.com/0", ANSWERS);
        kindWithout("mx");
        kindWithout("mx/24");
        Document.says("[SIGN] ip4:Q[/N],");
        kind("ip4:192.0.2.1", ANSWERS);
        kind("ip4:192.0.2.9/24", ANSWERS);
        kindWithout("ip4:192.0.2.9");
        Document.says("[SIGN] exists:D,");
        kind("exists:far.com", ANSWERS);
        kindWithout("exists:none.com");
        Document.says("redirect=D (once at most),");
        World.due("v=spf1 redirect=soft.com", 4);
        World.due("v=spf1 redirect=soft.com ip4:192.0.2.1", 2);
        World.due("v=spf1 redirect=soft.com redirect=soft.com", 6, 0, 0);
        World.due("v=spf1 redirect=soft.com all redirect=fail.com", 6, 0, 0);
        for (String sign : new String[] {"+", "?", "~", "-"}) {
            World.dueWrong(sign + "redirect=soft.com");
        }
        Document.says("other WORD=VALUE (VALUE: all that is behind, or nothing).");
        for (String term : new String[] {"x=", "x=y", "exp=%{q}", "x==", "x=y=z", "x=/:%;,", "all=all", "ip4=1",
            "a=b", "v=spf1", "redirec=b.com", "redirects=b.com", "x=\t", "x=\u00ff", "x=x x=x"}) {
            World.dueRight(term);
            World.due("v=spf1 " + term, 1, 0, 0);
        }
        for (String sign : new String[] {"+", "?", "~", "-"}) {
            World.dueWrong(sign + "x=y");
        }
    }

    /** The TERM, which matches, with each SIGN. */
    private static void kind(String term, int[] answers) {
        for (int i = 0; i < SIGNS.length; i++) {
            World.due("v=spf1 " + SIGNS[i] + term + " redirect=none.com", answers[i]);
        }
    }

    /** The TERM, which is one and does not match, with each SIGN. */
    private static void kindWithout(String term) {
        for (String sign : SIGNS) {
            World.due("v=spf1 " + sign + term + " ?all", 1);
        }
    }

    private static void signs() {
        Document.says("([ ] may be there; SIGN: + ? ~ -, as if + without;");
        kind("all", ANSWERS);
        for (int c = 33; c < 256; c++) {
            boolean sign = c == '+' || c == '?' || c == '~' || c == '-';
            Gate.due("byte " + c + " before all", World.of("v=spf1 " + (char) c + "all").gate.permission() == 6 ? 0 : 1,
                    sign ? 1 : 0);
        }
    }

    private static void nets() {
        Document.says("N: digits, at most two, 0 to 32, 32 without;");
        for (String term : new String[] {"a:b.com", "mx:b.com", "a", "mx", "ip4:1.2.3.4"}) {
            for (String right : new String[] {"", "/0", "/1", "/9", "/00", "/01", "/09", "/10", "/31", "/32"}) {
                World.dueRight(term + right);
            }
            for (String wrong : new String[] {"/", "/33", "/99", "/032", "/000", "/a", "/-1", "/+1", "/1a", "/1/",
                "/1/1", "//1",
                "/ 1", "/1."}) {
                World.dueWrong(term + wrong);
            }
        }
        World.due("v=spf1 ip4:192.0.2.0 -all", 3);
        World.due("v=spf1 ip4:192.0.2.0/32 -all", 3);
        World.due("v=spf1 ip4:192.0.2.0/31 -all", 2);
        Document.says("Q: four numbers of one to three digits, at most 255, with . between;");
        for (String right : new String[] {"0.0.0.0", "255.255.255.255", "001.02.3.099", "9.99.199.249",
            "000.000.000.000"}) {
            World.dueRight("ip4:" + right);
        }
        for (String wrong : new String[] {"1.2.3", "1.2.3.4.5", "1.2.3.", ".1.2.3", "1..2.3", "1.2.3.256", "256.2.3.4",
            "1.2.3.0004", "1.2.3.x", "1.2.3.-4", "1.2.3.+4", "1,2,3,4", "1.2.3.4.", "999.1.1.1", "a.b.c.d"}) {
            World.dueWrong("ip4:" + wrong);
        }
        World.due("v=spf1 ip4:192.000.02.001 -all", 2);
    }

    private static void words() {
        Document.says("WORD: a letter, then letters, digits, - _ .; letters small;");
        for (int c = 33; c < 256; c++) {
            boolean letter = c >= 'a' && c <= 'z';
            boolean more = letter || c >= '0' && c <= '9' || c == '-' || c == '_' || c == '.';
            int first = World.of("v=spf1 " + (char) c + "q=y").gate.permission();
            Gate.due("a WORD that begins with byte " + c, first, letter ? 1 : 6);
            int then = World.of("v=spf1 q" + (char) c + "=y").gate.permission();
            Gate.due("a WORD with byte " + c, then, more || c == '=' ? 1 : 6);
        }
        World.dueRight("q-_.0z=");
        World.dueWrong("All");
        World.dueWrong("aLL");
        World.dueWrong("INCLUDE:pass.com");
        World.dueWrong("A");
        World.dueWrong("Mx");
        World.dueWrong("Ip4:1.2.3.4");
        World.dueWrong("Redirect=pass.com");
    }

    private static void hosts() {
        Document.says("D: one sign of 33 to 126 at least, but /, in a and mx, without a % that does not begin a"
                + " MACRO.)");
        for (String word : new String[] {"include:", "a:", "mx:", "exists:", "redirect="}) {
            boolean net = word.equals("a:") || word.equals("mx:");
            World.dueWrong(word);
            for (int c = 1; c < 256; c++) {
                boolean right = c >= 33 && c <= 126 && c != '%' && !(net && c == '/');
                if (c != 32) {
                    int answer = World.of("v=spf1 ip4:192.0.2.1 " + word + "b" + (char) c).gate.permission();
                    Gate.due(word + "b and byte " + c, answer, right ? 2 : 6);
                }
            }
            for (String macro : new String[] {"%%", "%_", "%-", "%{s}", "%{l}", "%{o}", "%{d}", "%{i}", "%{s1}",
                "%{l9}", "%{or}",
                "%{d2r}", "%%%%", "%{i}%{i}", "%{d}x%_"}) {
                World.dueRight(word + macro);
                World.dueRight(word + "x" + macro + "x");
            }
            for (String wrong : new String[] {"%", "%%%", "x%", "%x", "%{", "%{}", "%{s", "%{x}", "%{S}", "%{s0}",
                "%{s10}",
                "%{sr1}", "%{srr}", "%{sR}", "%{ss}", "%{1}", "%{r}", "%{s }", "%s", "%{d.}", "%{d-}"}) {
                World.dueWrong(word + wrong);
            }
        }
        World.dueRight("a:b/1");
        World.dueWrong("a:/1");
        World.dueWrong("mx:/1");
        World.dueRight("include:/");
        World.dueRight("exists:b.com/33");
        World.dueRight("redirect=b.com/24");
    }
}
