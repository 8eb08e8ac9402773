/** The boundary cases of promises 7 and 8 that a CHECK meets on its way: COUNT, VOID, MATCHES, what becomes of a D. */
public final class CountEdgesTest {
    private static final int HERE = 0xC0000201;
    /** A TERM that COUNTS, is not VOID and does not match. */
    private static final String OTHER = " a:other.com";

    public static void main(String[] args) {
        tenAreCounted();
        elevenAreBroken();
        brokenAtOnce();
        countedWithin();
        notCounted();
        tenLevels();
        eachCheckBeginsAnew();
        twoAreVoid();
        threeAreBroken();
        voidAtOnce();
        exchangesOwnAreNotVoid();
        foundIsNotVoid();
        signsOfAnswers();
        includeAnswers();
        redirectIfNoneMatches();
        troubleAtOnce();
        addressOfMany();
        becomesANameOf60();
        lastParts();
        addressAsNumbers();
        whatIsChecked();
        noNameHasNoEntries();
        signsOfMacros();
        Gate.finish("CountEdgesTest");
    }

    private static Gate gate(String text) {
        Gate gate = new Gate();
        gate.text("a.com", text);
        gate.text("pass.com", "v=spf1 all");
        gate.text("fail.com", "v=spf1 -all");
        gate.address("other.com", HERE + 1);
        gate.address("here.com", HERE);
        gate.exchange("here.com", "here.com");
        gate.exchange("other.com", "other.com");
        gate.trouble("bad.com");
        gate.sender("joe@a.com", HERE);
        return gate;
    }

    private static void due(String text, int answer, int counted, int voids) {
        due(text, gate(text), answer, counted, voids);
    }

    private static void due(String what, Gate gate, int answer, int counted, int voids) {
        Gate.due(what, gate.gate.permission(), answer);
        Gate.due(what + ": COUNTED", gate.gate.cost(0), counted);
        Gate.due(what + ": VOID", gate.gate.cost(1), voids);
    }

    private static final String[] MATCHING = {" include:pass.com", " a:here.com", " mx:here.com", " exists:here.com",
        " redirect=pass.com"};

    private static void tenAreCounted() {
        Gate.sentence("Those that follow COUNT 1 each (ten are not more than 10)");
        for (String term : MATCHING) {
            due("v=spf1" + term, 2, 1, 0);
            due("v=spf1" + OTHER.repeat(9) + term, 2, 10, 0);
        }
        due("v=spf1" + OTHER.repeat(10), 1, 10, 0);
        due("v=spf1" + OTHER.repeat(10) + " ~all", 4, 10, 0);
    }

    private static void elevenAreBroken() {
        Gate.sentence("more than 10 are BROKEN");
        for (String term : MATCHING) {
            due("v=spf1" + OTHER.repeat(10) + term, 6, 11, 0);
        }
        due("v=spf1" + OTHER.repeat(11), 6, 11, 0);
    }

    private static void brokenAtOnce() {
        Gate.sentence("more than 10 are BROKEN, at once");
        due("v=spf1" + OTHER.repeat(11) + " all", 6, 11, 0);
        due("v=spf1" + OTHER.repeat(30) + " all", 6, 11, 0);
        for (String term : new String[] {" include:bad.com", " a:bad.com", " mx:bad.com", " exists:bad.com",
            " redirect=bad.com"}) {
            due("v=spf1" + OTHER.repeat(9) + term, 5, 10, 0);
            due("v=spf1" + OTHER.repeat(10) + term, 6, 11, 0);
        }
        due("v=spf1" + OTHER.repeat(9) + " a:none.com all", 2, 10, 1);
        due("v=spf1" + OTHER.repeat(10) + " a:none.com all", 6, 11, 0);
    }

    private static void countedWithin() {
        Gate.sentence("COUNT 1 each, those of an include, too");
        Gate gate = gate("v=spf1 include:b.com" + OTHER.repeat(3) + " all");
        gate.text("b.com", "v=spf1" + OTHER.repeat(6));
        due("1, 6 within and 3", gate, 2, 10, 0);
        gate = gate("v=spf1 include:b.com" + OTHER.repeat(3) + " all");
        gate.text("b.com", "v=spf1" + OTHER.repeat(7));
        due("1, 7 within and 3", gate, 6, 11, 0);
        gate = gate("v=spf1 include:b.com all");
        gate.text("b.com", "v=spf1" + OTHER.repeat(9));
        due("9 within", gate, 2, 10, 0);
        gate = gate("v=spf1 include:b.com all");
        gate.text("b.com", "v=spf1" + OTHER.repeat(10));
        due("10 within, which is BROKEN outside, too", gate, 6, 11, 0);
        gate = gate("v=spf1 redirect=b.com");
        gate.text("b.com", "v=spf1" + OTHER.repeat(9) + " -all");
        due("redirect and 9", gate, 3, 10, 0);
        gate = gate("v=spf1 redirect=b.com");
        gate.text("b.com", "v=spf1" + OTHER.repeat(10) + " -all");
        due("redirect and 10", gate, 6, 11, 0);
    }

    private static void notCounted() {
        Gate.sentence("all matches; ip4; WORD=VALUE: not among those that COUNT");
        due("v=spf1" + " ip4:1.1.1.1".repeat(50) + " all", 2, 0, 0);
        due("v=spf1" + " x=y".repeat(50) + OTHER.repeat(10) + " ip4:192.0.2.1", 2, 10, 0);
        due("v=spf1" + OTHER.repeat(10) + " ?all redirect=bad.com", 1, 10, 0);
    }

    /** NAMES n0 to n10, each of which sends to the next. */
    private static Gate chain(String to, int levels) {
        Gate gate = new Gate();
        gate.sender("joe@n0", HERE);
        for (int i = 0; i < levels; i++) {
            gate.text("n" + i, "v=spf1 " + to + "n" + (i + 1));
        }
        gate.text("n" + levels, "v=spf1 all");
        return gate;
    }

    private static void tenLevels() {
        Gate.sentence("include, redirect: CHECK of D, within a CHECK (more than 10 are BROKEN)");
        for (String to : new String[] {"include:", "redirect="}) {
            for (int levels : new int[] {1, 9, 10}) {
                due(to + " " + levels + " times", chain(to, levels), 2, levels, 0);
            }
            for (int levels : new int[] {11, 12, 30}) {
                due(to + " " + levels + " times", chain(to, levels), 6, 11, 0);
            }
            due(to + " itself", gate("v=spf1 " + to + "a.com"), 6, 11, 0);
        }
    }

    private static void eachCheckBeginsAnew() {
        Gate.sentence("PERMISSION: CHECK of the SENDER's DOMAIN (whatever the one before was)");
        String[] texts = {"v=spf1 a/33", "v=spf1 all", "v=spf1 ip4:1.1.1.1/0", "v=spf1 -all", "v=spf1 x", "v=spf1 ?all",
            "v=spf1" + OTHER.repeat(11), "v=spf1 a:here.com", "v=spf1 a:here.com/99", "v=spf1 exists:here.com",
            "v=spf1 a mx a:none.com", "v=spf1 a mx ~all", "v=spf1 redirect=fail.com", "v=spf1", "v=spf1 a:other.com/8"};
        int[] answers = {6, 2, 2, 3, 6, 1, 6, 2, 6, 2, 6, 4, 3, 1, 2};
        for (int i = 0; i < texts.length; i++) {
            for (int k = 0; k < texts.length; k++) {
                Gate gate = gate("x");
                gate.text("a.com", texts[i]);
                gate.text("b.com", texts[k]);
                Gate.due(texts[i], gate.gate.permission(), answers[i]);
                gate.sender("joe@b.com", HERE);
                Gate.due(texts[k] + " behind " + texts[i], gate.gate.permission(), answers[k]);
            }
        }
    }

    private static final String[] VOIDS = {" a:none.com", " exists:none.com", " mx:none.com"};

    private static void twoAreVoid() {
        Gate.sentence("VOID is counted, too: a, exists, mx whose D has no ADDRESS, ADDRESS, EXCHANGE (two are not more than 2)");
        for (String term : VOIDS) {
            due("v=spf1" + term + " ~all", 4, 1, 1);
            for (String second : VOIDS) {
                due("v=spf1" + term + second + " ~all", 4, 2, 2);
            }
        }
        due("v=spf1 a mx ?all", 1, 2, 2);
    }

    private static void threeAreBroken() {
        Gate.sentence("VOID: more than 2: BROKEN");
        for (String third : VOIDS) {
            due("v=spf1 a:none.com mx:none.com" + third + " all", 6, 3, 3);
            due("v=spf1 exists:none.com" + OTHER + " exists:none.com" + OTHER + third, 6, 5, 3);
        }
        due("v=spf1 a mx exists:none.com ?all", 6, 3, 3);
    }

    private static void voidAtOnce() {
        Gate.sentence("VOID: more than 2: BROKEN, at once");
        due("v=spf1 a mx a:none.com a:bad.com", 6, 3, 3);
        due("v=spf1 a mx a:bad.com a:none.com", 5, 3, 2);
        due("v=spf1 a mx ip4:192.0.2.1 a:none.com", 2, 2, 2);
        due("v=spf1" + OTHER.repeat(7) + " a mx a:none.com all", 6, 10, 3);
        due("v=spf1" + OTHER.repeat(8) + " a mx a:none.com all", 6, 11, 2);
        Gate gate = gate("v=spf1 a include:b.com all");
        gate.text("b.com", "v=spf1 a mx");
        due("within an include", gate, 6, 4, 3);
        gate = gate("v=spf1 a include:b.com mx all");
        gate.text("b.com", "v=spf1 a");
        due("behind an include", gate, 6, 4, 3);
        gate = gate("v=spf1 a redirect=b.com");
        gate.text("b.com", "v=spf1 a mx:other.com all");
        due("two with a redirect", gate, 2, 4, 2);
    }

    private static void exchangesOwnAreNotVoid() {
        Gate.sentence("VOID: (not the exchanges' own)");
        Gate gate = gate("v=spf1 mx mx mx mx ~all");
        for (int i = 0; i < 5; i++) {
            gate.exchange("a.com", "m" + i + ".com");
        }
        due("twenty of them", gate, 4, 4, 0);
        gate = gate("v=spf1 a mx exists:x.com mx ~all");
        gate.exchange("a.com", "m.com");
        due("beside two that are VOID", gate, 4, 4, 2);
    }

    private static void foundIsNotVoid() {
        Gate.sentence("VOID: whose D has no ADDRESS, ADDRESS, EXCHANGE");
        due("v=spf1 a:other.com ~all", 4, 1, 0);
        due("v=spf1 mx:other.com ~all", 4, 1, 0);
        due("v=spf1 exists:other.com ~all", 2, 1, 0);
        due("v=spf1 include:fail.com ~all", 4, 1, 0);
        Gate gate = gate("v=spf1 a exists:%{d} mx:fail.com ~all");
        gate.exchange("a.com", "here.com");
        gate.address("fail.com", HERE);
        due("an EXCHANGE is no ADDRESS, an ADDRESS no EXCHANGE", gate, 6, 3, 3);
        gate = gate("v=spf1 mx a:c.com ~all");
        gate.suffix("a.com");
        gate.suffix("c.com");
        gate.text("c.com", "x");
        due("a SUFFIX and a TEXT are neither", gate, 4, 2, 2);
    }

    private static void signsOfAnswers() {
        Gate.sentence("the first that MATCHES gives PASS, NEUTRAL, SOFT, FAIL by its SIGN + ? ~ - (as if + without)");
        String[] signs = {"", "+", "?", "~", "-"};
        int[] answers = {2, 2, 1, 4, 3};
        for (int i = 0; i < signs.length; i++) {
            for (String term : new String[] {"all", "include:pass.com", "a:here.com", "mx:here.com", "ip4:192.0.2.1",
                "exists:here.com"}) {
                Gate.due(signs[i] + term, gate("v=spf1 " + signs[i] + term).gate.permission(), answers[i]);
                Gate.due(signs[i] + term + " first", gate("v=spf1 " + signs[i] + term + " -all").gate.permission(),
                        answers[i]);
            }
        }
        for (int c = 33; c < 127; c++) {
            boolean sign = "+?~-".indexOf(c) >= 0;
            Gate.due((char) c + "ip4:192.0.2.2 all", gate("v=spf1 " + (char) c + "ip4:192.0.2.2 all").gate.permission(),
                    sign ? 2 : 6);
        }
        Gate.due("a TERM that is none behind all", gate("v=spf1 all x").gate.permission(), 6);
        Gate.due("a SIGN alone behind all", gate("v=spf1 all -").gate.permission(), 6);
        Gate.due("two SIGNS", gate("v=spf1 --all").gate.permission(), 6);
        Gate.due("a SIGN alone", gate("v=spf1 - all").gate.permission(), 6);
    }

    private static void includeAnswers() {
        Gate.sentence("include: CHECK of D: PASS: it matches; TROUBLE, BROKEN: that at once; NONE: BROKEN");
        String[] texts = {"v=spf1 all", "v=spf1 ?all", "v=spf1 ~all", "v=spf1 -all", "v=spf1", "v=spf1 x", "x"};
        int[] answers = {3, 4, 4, 4, 4, 6, 6};
        for (int i = 0; i < texts.length; i++) {
            Gate gate = gate("v=spf1 -include:b.com ~all");
            gate.text("b.com", texts[i]);
            due("with " + texts[i], gate, answers[i], 1, 0);
        }
        due("v=spf1 ?include:bad.com all", 5, 1, 0);
        due("v=spf1 ?include:none.com all", 6, 1, 0);
    }

    private static void redirectIfNoneMatches() {
        Gate.sentence("If none matches: redirect, if it is there and no all is: CHECK of its D, NONE being BROKEN; else NEUTRAL");
        due("v=spf1", 1, 0, 0);
        due("v=spf1 redirect=fail.com", 3, 1, 0);
        due("v=spf1 redirect=fail.com ip4:192.0.2.2", 3, 1, 0);
        due("v=spf1 redirect=fail.com ~ip4:192.0.2.1", 4, 0, 0);
        due("v=spf1 redirect=fail.com ~all", 4, 0, 0);
        due("v=spf1 redirect=none.com", 6, 1, 0);
        due("v=spf1 redirect=other.com", 6, 1, 0);
        due("v=spf1 redirect=bad.com", 5, 1, 0);
        due("v=spf1 redirect=%_", 6, 1, 0);
        String[] texts = {"v=spf1 all", "v=spf1 ?all", "v=spf1 ~all", "v=spf1 -all", "v=spf1", "v=spf1 x"};
        int[] answers = {2, 1, 4, 3, 1, 6};
        for (int i = 0; i < texts.length; i++) {
            Gate gate = gate("v=spf1 redirect=b.com");
            gate.text("b.com", texts[i]);
            due("to " + texts[i], gate, answers[i], 1, 0);
        }
    }

    private static void troubleAtOnce() {
        Gate.sentence("TROUBLE (of a NAME: who looks for it, whatever for, gets TROUBLE); at once");
        for (String term : new String[] {"include:bad.com", "a:bad.com", "mx:bad.com", "exists:bad.com"}) {
            due("v=spf1 " + term + " all", 5, 1, 0);
            due("v=spf1 all " + term, 2, 0, 0);
        }
        Gate gate = gate("v=spf1 mx all");
        gate.exchange("a.com", "other.com");
        due("an exchange without", gate, 2, 1, 0);
        gate.exchange("a.com", "bad.com");
        due("the second exchange", gate, 5, 1, 0);
        gate = gate("v=spf1 -mx all");
        gate.exchange("a.com", "here.com");
        gate.exchange("a.com", "bad.com");
        due("an exchange behind one that matches", gate, 3, 1, 0);
        gate = gate("v=spf1 a:x.bad.com ~all");
        due("of another NAME, which is above", gate, 4, 1, 1);
    }

    private static void addressOfMany() {
        Gate.sentence("a: the first N bits of one; mx: EXCHANGES of D, as a with each of them");
        for (int place = 0; place < 3; place++) {
            Gate gate = gate("v=spf1 a mx:x.com -all");
            for (int i = 0; i < 3; i++) {
                gate.address("a.com", HERE + 1 + i);
                gate.exchange("x.com", "m" + i + ".com");
                gate.address("m" + i + ".com", HERE + 4);
                gate.address("m" + i + ".com", HERE + (i == place ? 0 : 5));
            }
            due("an exchange's second ADDRESS, exchange " + place, gate, 2, 2, 0);
            gate.sender("joe@a.com", HERE + 1 + place);
            due("ADDRESS " + place, gate, 2, 1, 0);
            gate.sender("joe@a.com", HERE + 9);
            due("no ADDRESS", gate, 3, 2, 0);
        }
        for (int sort = 1; sort <= 2; sort++) {
            Gate gate = new Gate();
            gate.sender("joe@a.com", HERE);
            gate.tape(sort == 1 ? "b.com" : "b.com c.com").gate.entry(sort, HERE);
            gate.text("a.com", "v=spf1 a:b.com mx:b.com -all");
            gate.address("c.com", HERE);
            due("an entry of sort " + sort + " as the first of all", gate, 2, sort, sort - 1);
        }
    }

    /** Whether exists finds the NAME that the D becomes. */
    private static void dueName(String sender, String host, String name) {
        Gate gate = new Gate();
        gate.sender(sender, HERE);
        gate.text(sender.substring(sender.indexOf('@') + 1), "v=spf1 exists:" + host + " -all");
        int taken = gate.address(name, 1);
        Gate.due(host + " is a NAME of " + name.length(), gate.gate.permission(), taken > 0 ? 2 : 3);
        Gate.due(host + ": VOID", gate.gate.cost(1), taken > 0 ? 0 : 1);
    }

    private static void becomesANameOf60() {
        Gate.sentence("D is what becomes of it; If it is no NAME then: it has no entries (NAMES: 1 to 60, parts of 1 to 20)");
        for (int length = 50; length <= 62; length++) {
            String name = Names.ofLength(length);
            dueName("joe@a.com", name, name);
            dueName("joe@a.com", name.substring(0, length - 1) + "%{d1r}", name.substring(0, length - 1) + "a");
            dueName("joe@a.com", "%{d1}" + name.substring(3), "com" + name.substring(3));
        }
        for (int more = 18; more <= 21; more++) {
            dueName("joe@a.com", "x".repeat(more - 3) + "%{l}", "x".repeat(more - 3) + "joe");
        }
        dueName("x".repeat(20) + "@a.com", "%{l}", "x".repeat(20));
        dueName("x".repeat(21) + "@a.com", "%{l}", "x".repeat(21));
        dueName("joe@" + Names.LONGEST, "%{d}", Names.LONGEST);
        dueName("joe@" + Names.LONGEST, "%{o}a", Names.LONGEST + "a");
        Gate gate = new Gate();
        gate.sender("joe@a.com", HERE);
        gate.text("a.com", "v=spf1 exists:" + Names.LONGEST + "b -all");
        gate.address(Names.LONGEST, 1);
        Gate.due("61 bytes are not the first 60 of them", gate.gate.permission(), 3);
    }

    private static void lastParts() {
        Gate.sentence("parted at each ., with r turned round, of n (a digit, not 0) the last n parts");
        String[] parts = {"a", "b", "c", "d", "e", "f", "g", "h", "i", "j"};
        for (int count = 1; count <= 10; count++) {
            String local = String.join(".", java.util.Arrays.copyOf(parts, count));
            String turned = new StringBuilder(local).reverse().toString();
            dueName(local + "@x.com", "%{l}", local);
            dueName(local + "@x.com", "%{lr}", turned);
            for (int n = 1; n <= 9; n++) {
                int from = Math.max(0, count - n) * 2;
                dueName(local + "@x.com", "%{l" + n + "}", local.substring(from));
                dueName(local + "@x.com", "%{l" + n + "r}", turned.substring(from));
            }
        }
        dueName(".o@x.com", "%{lr}q", "o.q");
        dueName("o.@x.com", "q%{lr}", "q.o");
        dueName("o.@x.com", "q%{l}o", "qo.o");
        dueName("..@x.com", "q%{l}q", "q..q");
        dueName("..@x.com", "q%{l2}q", "q.q");
        dueName("o..p@x.com", "%{l1}%{l1r}", "po");
        dueName("x".repeat(30) + "@" + Names.LONGEST, "%{s1}", Names.LONGEST.substring(42));
        dueName("x".repeat(30) + "@" + Names.LONGEST, "%{s2}", Names.LONGEST.substring(21));
        dueName("a.b@c.d", "%{s1r}.%{s1}", "a.d");
        dueName("joe@a.com", "%{i4}", "192.0.2.1");
        dueName("joe@a.com", "%{i3}", "0.2.1");
        dueName("joe@a.com", "%{i5r}", "1.2.0.192");
    }

    private static void addressAsNumbers() {
        Gate.sentence("i the address, four numbers with . between");
        for (int number : new int[] {0, 1, 9, 10, 11, 19, 20, 90, 99, 100, 101, 109, 110, 127, 128, 199, 200, 255}) {
            for (int shift = 0; shift <= 24; shift += 8) {
                int address = 0x05050505 & ~(255 << shift) | number << shift;
                String name = (address >>> 24) + "." + (address >>> 16 & 255) + "." + (address >>> 8 & 255) + "."
                        + (address & 255);
                Gate gate = new Gate();
                gate.text("a.com", "v=spf1 exists:%{i} -all");
                gate.address(name, 1);
                gate.sender("joe@a.com", address);
                Gate.due(name, gate.gate.permission(), 2);
                gate.sender("joe@a.com", address ^ 1);
                Gate.due(name + " is another SENDER's", gate.gate.permission(), 3);
                gate.sender("joe@a.com", address);
                Gate.due(name + " again", gate.gate.permission(), 2);
            }
        }
        dueAddress(-1, "255.255.255.255");
        dueAddress(0, "0.0.0.0");
        dueAddress(Integer.MIN_VALUE, "128.0.0.0");
        dueAddress(Integer.MAX_VALUE, "127.255.255.255");
    }

    private static void dueAddress(int address, String name) {
        Gate gate = new Gate();
        gate.sender("joe@a.com", address);
        gate.text("a.com", "v=spf1 exists:%{i} -all");
        gate.address(name, 1);
        Gate.due(name, gate.gate.permission(), 2);
    }

    private static void whatIsChecked() {
        Gate.sentence("s LOCAL, @ and DOMAIN; l LOCAL; o DOMAIN; d the NAME that is checked");
        for (String letter : new String[] {"o", "d", "s1", "l"}) {
            Gate gate = new Gate();
            gate.sender("joe@x.org", HERE);
            gate.text("x.org", "v=spf1 include:y.net -all");
            gate.text("y.net", "v=spf1 exists:q.%{" + letter + "}");
            String[] names = {"q.x.org", "q.y.net", "q.org", "q.joe"};
            for (int i = 0; i < names.length; i++) {
                gate.address(names[i], 1);
                Gate.due(letter + " with " + names[i], gate.gate.permission(), "odsl".indexOf(letter.charAt(0)) <= i ? 2 : 3);
            }
        }
    }

    private static void noNameHasNoEntries() {
        Gate.sentence("If it is no NAME then: it has no entries");
        for (String host : new String[] {"%%", "%_", "%-", "a%_com", ".a.com", "a.com.", "a..com", "A.com", "a.com/", "~",
            "%{s}", "x".repeat(21), Names.LONGEST + "x"}) {
            due("v=spf1 exists:" + host + " ~all", 4, 1, 1);
            due("v=spf1 include:" + host + " ~all", 6, 1, 0);
            due("v=spf1 redirect=" + host, 6, 1, 0);
            if (host.indexOf('/') < 0) {
                due("v=spf1 a:" + host + " ~all", 4, 1, 1);
                due("v=spf1 mx:" + host + " ~all", 4, 1, 1);
            }
        }
    }

    private static void signsOfMacros() {
        Gate.sentence("MACRO %% is %, %_ a blank, %- the signs %20 (none of which a NAME has)");
        String[] names = {"ab.com", "a-b.com", "a_b.com", "a20b.com", "a.b.com", "a", "b.com"};
        for (String macro : new String[] {"%%", "%_", "%-"}) {
            Gate gate = new Gate();
            gate.sender("joe@a.com", HERE);
            gate.text("a.com", "v=spf1 exists:a" + macro + "b.com ~all");
            for (String name : names) {
                gate.address(name, HERE);
            }
            due("a" + macro + "b.com", gate, 4, 1, 1);
        }
    }
}
