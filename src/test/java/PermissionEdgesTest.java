/** The boundary cases of promises 6 (sender), 7 (permission) and 8 (cost). */
public final class PermissionEdgesTest {
    private static final int MIN = Integer.MIN_VALUE;
    private static final int MAX = Integer.MAX_VALUE;
    private static final int HERE = 0xC0000201;

    public static void main(String[] args) {
        localOf30();
        signsOfLocal();
        domainOfSender();
        refusedSenderStays();
        withoutSender();
        costOfOthers();
        costOfTheLatest();
        beginsWithABlank();
        noneOneTwoTexts();
        blanksBetween();
        lettersSmall();
        redirectOnce();
        bitsOfTwoDigits();
        quads();
        words();
        signsOfHosts();
        slashes();
        macroDigits();
        firstBitsOfIp4();
        firstBitsOfAddresses();
        Gate.finish("PermissionEdgesTest");
    }

    private static int permission(String... texts) {
        Gate gate = new Gate();
        for (String text : texts) {
            gate.text("a.com", text);
        }
        gate.sender("joe@a.com", HERE);
        return gate.gate.permission();
    }

    /** Whether the TERM is one: a match before it counts only if all TERMS are right. */
    private static void dueTerm(String term, boolean right) {
        Gate.due(term, permission("v=spf1 ip4:192.0.2.1 " + term), right ? 2 : 6);
    }

    private static void localOf30() {
        Gate.sentence("THE SENDER: a LOCAL part (1 to 30); sender: 0, REFUSED if it is none");
        for (int length : new int[] {1, 2, 29, 30}) {
            Gate.due("a LOCAL of " + length, new Gate().sender("x".repeat(length) + "@a.com", 0), 0);
        }
        for (int length : new int[] {0, 31, 32, 60, 2990}) {
            Gate.due("a LOCAL of " + length, new Gate().sender("x".repeat(length) + "@a.com", 0), -1);
        }
        Gate.due("the longest SENDER", new Gate().sender("x".repeat(30) + "@" + Names.LONGEST, 0), 0);
    }

    private static void signsOfLocal() {
        Gate.sentence("THE SENDER: small letters, digits, . - _ +");
        String signs = "abcdefghijklmnopqrstuvwxyz0123456789.-_+";
        for (int c = 0; c < 256; c++) {
            int want = signs.indexOf(c) >= 0 ? 0 : -1;
            Gate.due("byte " + c, new Gate().sender("x" + (char) c + "y@a.com", 0), want);
            Gate.due("byte " + c + " alone", new Gate().sender((char) c + "@a.com", 0), want);
        }
        Gate.due("dots anywhere", new Gate().sender("..@a.com", 0), 0);
    }

    private static void domainOfSender() {
        Gate.sentence("THE SENDER: LOCAL@DOMAIN, a DOMAIN, a NAME");
        for (String name : Names.RIGHT) {
            Gate.due("of " + name, new Gate().sender("x@" + name, 0), 0);
        }
        for (String name : Names.WRONG) {
            Gate.due("of " + name, new Gate().sender("x@" + name, 0), -1);
        }
        for (int c = 0; c < 256; c++) {
            Gate.due("byte " + c, new Gate().sender("x@a" + (char) c + "b", 0), Names.mayStand(c) ? 0 : -1);
        }
        for (String text : new String[] {"", "@", "x", "x@@a.com", "x@a.com@", "@x@a.com"}) {
            Gate.due("of " + text, new Gate().sender(text, 0), -1);
        }
    }

    private static void refusedSenderStays() {
        Gate.sentence("sender: REFUSED if it is none (it stays)");
        Gate gate = new Gate();
        gate.text("a.com", "v=spf1 ip4:0.0.0.7 exists:%{l}.%{o} -all");
        Gate.due("the one", gate.sender("x@a.com", 7), 0);
        for (String wrong : new String[] {"", "y@b..com", "@b.com", "y".repeat(31) + "@b.com", "y@" + Names.LONGEST + "y"}) {
            Gate.due("a wrong one: " + wrong, gate.sender(wrong, 8), -1);
            Gate.due("the DOMAIN and the address stay", gate.gate.permission(), 2);
        }
        gate.sender("x@a.com", 9);
        gate.sender("y@b..com", 8);
        gate.address("x.a.com", 1);
        Gate.due("the LOCAL part stays", gate.gate.permission(), 2);
        for (int address : new int[] {0, 1, -1, MIN, MAX}) {
            Gate.due("any address: " + address, gate.sender("x@a.com", address), 0);
        }
    }

    private static void withoutSender() {
        Gate.sentence("permission: REFUSED without one");
        Gate gate = new Gate();
        gate.text("a.com", "v=spf1 all");
        Gate.due("none", gate.gate.permission(), -1);
        gate.sender("x@a..com", 0);
        Gate.due("a refused one", gate.gate.permission(), -1);
        gate.sender("x@a.com", 0);
        Gate.due("one", gate.gate.permission(), 2);
        gate.gate.forget();
        Gate.due("one, and no entries", gate.gate.permission(), 0);
    }

    private static void costOfOthers() {
        Gate.sentence("cost: (what 0), (1). REFUSED for others");
        Gate gate = new Gate();
        gate.text("a.com", "v=spf1 a mx a:b.com -all");
        gate.address("b.com", 1);
        gate.sender("x@a.com", 0);
        gate.gate.permission();
        Gate.due("cost(0)", gate.gate.cost(0), 3);
        Gate.due("cost(1)", gate.gate.cost(1), 2);
        for (int what : new int[] {-1, 2, -2, 3, MIN, MAX}) {
            Gate.due("cost(" + what + ")", gate.gate.cost(what), -1);
        }
    }

    private static void costOfTheLatest() {
        Gate.sentence("cost: the latest PERMISSION");
        Gate gate = new Gate();
        Gate.due("before the first", gate.gate.cost(0), 0);
        gate.gate.permission();
        Gate.due("after a refused one", gate.gate.cost(0), 0);
        gate.text("a.com", "v=spf1 a mx -all");
        gate.sender("x@a.com", 0);
        Gate.due("before it is asked", gate.gate.cost(1), 0);
        gate.gate.permission();
        gate.sender("x@b.com", 0);
        gate.gate.forget();
        Gate.due("COUNTED as long as it is the latest", gate.gate.cost(0), 2);
        Gate.due("VOID as long as it is the latest", gate.gate.cost(1), 2);
        gate.gate.permission();
        Gate.due("COUNTED by one without a TEXT", gate.gate.cost(0), 0);
        Gate.due("VOID by one without a TEXT", gate.gate.cost(1), 0);
    }

    private static void beginsWithABlank() {
        Gate.sentence("CHECK: its TEXTS that are v=spf1, or begin with v=spf1 and a blank (32)");
        Gate.due("v=spf1", permission("v=spf1"), 1);
        Gate.due("v=spf", permission("v=spf"), 0);
        for (int c = 0; c < 256; c++) {
            Gate.due("v=spf1 and byte " + c, permission("v=spf1" + (char) c), c == 32 ? 1 : 0);
            Gate.due("v=spf1, byte " + c + " and all", permission("v=spf1" + (char) c + "-all"), c == 32 ? 3 : 0);
        }
        Gate.due("a blank before", permission(" v=spf1"), 0);
        Gate.due("nothing", permission(""), 0);
        Gate.due("great letters", permission("V=SPF1 all"), 0);
    }

    private static void noneOneTwoTexts() {
        Gate.sentence("CHECK: TROUBLE: TROUBLE; none: NONE; two: BROKEN");
        Gate.due("none", permission(), 0);
        Gate.due("none that begins so", permission("x", "v=spf2", ""), 0);
        Gate.due("one", permission("v=spf1"), 1);
        Gate.due("one among others", permission("x", "v=spf1 all", "v=spf12"), 2);
        Gate.due("two", permission("v=spf1 all", "v=spf1 all"), 6);
        Gate.due("two of both kinds", permission("v=spf1", "x", "v=spf1 all"), 6);
        Gate.due("three", permission("v=spf1", "v=spf1", "v=spf1"), 6);
        Gate gate = new Gate();
        gate.sender("joe@a.com", HERE);
        gate.trouble("a.com");
        Gate.due("TROUBLE with none", gate.gate.permission(), 5);
        gate.text("a.com", "v=spf1 all");
        Gate.due("TROUBLE with one", gate.gate.permission(), 5);
        gate.text("a.com", "v=spf1 all");
        Gate.due("TROUBLE with two", gate.gate.permission(), 5);
    }

    private static void blanksBetween() {
        Gate.sentence("CHECK: Behind, with blanks between, TERMS");
        Gate.due("no TERM", permission("v=spf1 "), 1);
        Gate.due("one TERM", permission("v=spf1 all"), 2);
        Gate.due("a blank behind", permission("v=spf1 all "), 2);
        Gate.due("more blanks", permission("v=spf1  ip4:1.1.1.1   -all  "), 3);
        for (int c = 0; c < 256; c++) {
            // Between these two only a blank parts; every other byte makes a TERM that is none.
            Gate.due("byte " + c + " between", permission("v=spf1 ip4:1.1.1.1" + (char) c + "-all"), c == 32 ? 3 : 6);
        }
    }

    private static void lettersSmall() {
        Gate.sentence("TERMS; one that is none of these: BROKEN; letters small");
        for (String term : new String[] {"all", "include:b.com", "a", "a:b.com", "mx", "mx:b.com", "ip4:1.2.3.4",
            "exists:b.com", "redirect=b.com", "exp=b.com"}) {
            dueTerm(term, true);
            dueTerm(Character.toUpperCase(term.charAt(0)) + term.substring(1), false);
            boolean plain = term.indexOf(':') < 0 && term.indexOf('=') < 0;
            dueTerm("?" + term, term.indexOf('=') < 0);
            dueTerm(term + "!", !plain && !term.startsWith("ip4"));
            dueTerm("!" + term, false);
            dueTerm(term + ":", !plain && !term.startsWith("ip4"));
            dueTerm("x" + term, term.indexOf('=') >= 0);
        }
        for (String term : new String[] {"ALL", "MX", "IP4:1.2.3.4", "al", "alll", "m", "mxx", "aa", "ip4", "ip4:", "ip6:::1",
            "ip5:1.2.3.4", "include", "exists", "redirect", "ptr", "?", "?+all", "all:b.com", "all/8", "include/8"}) {
            dueTerm(term, false);
        }
    }

    private static void redirectOnce() {
        Gate.sentence("redirect=D (once at most)");
        Gate.due("once", permission("v=spf1 redirect=b.com all"), 2);
        Gate.due("twice", permission("v=spf1 redirect=b.com all redirect=b.com"), 6);
        Gate.due("twice side by side", permission("v=spf1 all redirect=b.com redirect=c.com"), 6);
        Gate.due("another word twice", permission("v=spf1 all exp=b.com exp=c.com"), 2);
    }

    private static void bitsOfTwoDigits() {
        Gate.sentence("N: digits, at most two, 0 to 32, 32 without");
        for (String head : new String[] {"a", "mx", "a:b.com", "mx:b.com", "ip4:1.2.3.4"}) {
            dueTerm(head, true);
            for (String bits : new String[] {"0", "1", "9", "00", "01", "09", "10", "31", "32"}) {
                dueTerm(head + "/" + bits, true);
            }
            for (String bits : new String[] {"", "33", "34", "99", "000", "001", "032", "100", "-1", "+1", "x", "1x", "x1",
                "/", "3/", "1 /1", ":", "%{d}"}) {
                dueTerm(head + "/" + bits, false);
            }
        }
    }

    private static void quads() {
        Gate.sentence("Q: four numbers of one to three digits, at most 255, with . between");
        for (String number : new String[] {"0", "9", "00", "99", "000", "001", "100", "199", "249", "250", "255"}) {
            dueTerm("ip4:" + number + ".1.1.1", true);
            dueTerm("ip4:1." + number + ".1.1", true);
            dueTerm("ip4:1.1." + number + ".1", true);
            dueTerm("ip4:1.1.1." + number, true);
        }
        for (String number : new String[] {"", "256", "260", "300", "999", "0000", "0001", "1000", "-1", "+1", "x", "1x",
            "/", ":"}) {
            dueTerm("ip4:" + number + ".1.1.1", false);
            dueTerm("ip4:1." + number + ".1.1", false);
            dueTerm("ip4:1.1." + number + ".1", false);
            dueTerm("ip4:1.1.1." + number, false);
        }
        for (String quad : new String[] {"", "1", "1.1", "1.1.1", "1.1.1.1.1", "1.1.1.1.", ".1.1.1.1", "1,1,1,1"}) {
            dueTerm("ip4:" + quad, false);
        }
    }

    private static void words() {
        Gate.sentence("WORD: a letter, then letters, digits, - _ .; VALUE: all that is behind, or nothing");
        String later = "abcdefghijklmnopqrstuvwxyz0123456789-_.";
        for (int c = 0; c < 256; c++) {
            if (c == 32) {
                continue;
            }
            dueTerm((char) c + "=", c >= 'a' && c <= 'z');
            // With = behind the x that is the WORD.
            dueTerm("x" + (char) c + "=v", later.indexOf(c) >= 0 || c == '=');
            dueTerm("x=" + (char) c, true);
        }
        dueTerm("x", false);
        dueTerm("=", false);
        dueTerm("x=" + "y".repeat(600), true);
        dueTerm("y".repeat(600) + "=", true);
    }

    private static void signsOfHosts() {
        Gate.sentence("D: one sign of 33 to 126 at least");
        for (String head : new String[] {"include:", "exists:", "redirect=", "a:", "mx:"}) {
            dueTerm(head, false);
            for (int c = 0; c < 256; c++) {
                boolean parts = c == '/' && head.length() < 4;
                if (c != 32) {
                    dueTerm(head + (char) c, c >= 33 && c <= 126 && c != '%' && !parts);
                    dueTerm(head + "x" + (char) c + "x", c >= 33 && c <= 126 && c != '%' && !parts);
                }
            }
        }
    }

    private static void slashes() {
        Gate.sentence("D: but /, in a and mx");
        for (String head : new String[] {"a", "mx"}) {
            dueTerm(head + ":/24", false);
            dueTerm(head + ":x/24", true);
            dueTerm(head + ":x/y/24", false);
            dueTerm(head + ":x/24/24", false);
        }
        for (String head : new String[] {"include:", "exists:", "redirect="}) {
            dueTerm(head + "/", true);
            dueTerm(head + "x/24", true);
            dueTerm(head + "x/y/33", true);
        }
    }

    private static void macroDigits() {
        Gate.sentence("D: without a % that does not begin a MACRO: %{X[n][r]}, n (a digit, not 0)");
        for (String head : new String[] {"include:", "exists:", "redirect=", "a:", "mx:"}) {
            for (String host : new String[] {"%%", "%_", "%-", "%{s}", "%{l}", "%{o}", "%{d}", "%{i}", "%{d1}", "%{d9}",
                "%{dr}", "%{d1r}", "%{d9r}", "x%{d}x", "%%%%", "%%{", "%{d}}", "{d}"}) {
                dueTerm(head + host, true);
                // The second of the two is as good as the first.
                dueTerm(head + host + host, true);
            }
            for (String host : new String[] {"%", "x%", "%x", "%%%", "%{", "%{}", "%{d", "%{d1", "%{dr", "%{d1r", "%{d0}",
                "%{d10}", "%{d11}", "%{d:}", "%{d1r1}", "%{dr1}", "%{drr}", "%{dR}", "%{dx}", "%{D}", "%{a}", "%{c}", "%{e}",
                "%{h}", "%{j}", "%{k}", "%{m}", "%{n}", "%{p}", "%{r}", "%{t}", "%{1}", "%{d1 }", "%{dd}", "%}", "%0", "%{d)"}) {
                dueTerm(head + host, false);
                dueTerm(head + "x" + host, false);
            }
        }
    }

    private static String quad(int address) {
        return (address >>> 24) + "." + (address >>> 16 & 255) + "." + (address >>> 8 & 255) + "." + (address & 255);
    }

    private static void firstBitsOfIp4() {
        Gate.sentence("ip4: the first N bits of the SENDER's address are Q's");
        for (int address : new int[] {HERE, 0, -1, MIN, MAX}) {
            for (int n = 0; n <= 32; n++) {
                for (int bit = 0; bit < 32; bit++) {
                    Gate gate = new Gate();
                    gate.text("a.com", "v=spf1 ip4:" + quad(address ^ MIN >>> bit) + "/" + n + " -all");
                    gate.sender("joe@a.com", address);
                    Gate.due("/" + n + " with bit " + bit + " other", gate.gate.permission(), bit < n ? 3 : 2);
                }
            }
        }
        Gate.due("32 without", permission("v=spf1 ip4:192.0.2.1 -all"), 2);
        Gate.due("32 without, the last bit other", permission("v=spf1 ip4:192.0.2.0 -all"), 3);
    }

    private static void firstBitsOfAddresses() {
        Gate.sentence("a, mx: the first N bits of one are the SENDER's");
        for (String term : new String[] {"a:b.com", "mx:c.com"}) {
            for (int n = 0; n <= 33; n++) {
                for (int bit : new int[] {0, n - 1, n, 31}) {
                    if (bit < 0 || bit > 31) {
                        continue;
                    }
                    Gate gate = new Gate();
                    gate.text("a.com", "v=spf1 " + term + (n == 33 ? "" : "/" + n) + " -all");
                    gate.address("b.com", HERE ^ MIN >>> bit);
                    gate.exchange("c.com", "b.com");
                    gate.sender("joe@a.com", HERE);
                    Gate.due(term + " " + n + " with bit " + bit + " other", gate.gate.permission(), bit < n ? 3 : 2);
                }
            }
        }
    }
}
