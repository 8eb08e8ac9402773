/** Promises 4 (entry), 5 (forget) and 14 (house). */
public final class DirectoryTest {
    private static final String PART = "abcdefghij0123456789";
    private static final String LONGEST = PART + "." + PART + "." + PART.substring(2);

    public static void main(String[] args) {
        sorts();
        names();
        values();
        full();
        forget();
        houseWithoutSuffix();
        houseWithSuffixes();
        houseOfTheOnlySuffix();
        wrongHouses();
        Gate.finish("DirectoryTest");
    }

    private static void sorts() {
        Gate gate = new Gate();
        Gate.due("a TEXT", gate.text("a.com", "v=spf1 a mx exists:b.com -all"), 1);
        Gate.due("an ADDRESS", gate.address("b.com", 7), 2);
        Gate.due("an EXCHANGE", gate.exchange("a.com", "c.com"), 3);
        Gate.due("a TROUBLE", gate.trouble("c.com"), 4);
        Gate.due("a SUFFIX", gate.suffix("com"), 5);
        Gate.due("the same once more", gate.suffix("com"), 6);
        Gate.due("sort 5", gate.tape("com").gate.entry(5, 0), -1);
        Gate.due("sort -1", gate.tape("com").gate.entry(-1, 0), -1);
        Gate.due("sort MIN", gate.tape("com").gate.entry(Integer.MIN_VALUE, 0), -1);
        Gate.due("sort MAX", gate.tape("com").gate.entry(Integer.MAX_VALUE, 0), -1);
        gate.sender("x@a.com", 1);
        Gate.due("who finds TROUBLE", gate.gate.permission(), 5);
        Gate.due("forget()", gate.gate.forget(), 6);
    }

    private static void names() {
        for (int sort : new int[] {1, 3, 4}) {
            for (String name : new String[] {"a", "a.b", "-", "_", "0-a_.b", PART, LONGEST}) {
                Gate.due("sort " + sort + " of " + name, new Gate().tape(name).gate.entry(sort, 0), 1);
            }
            for (String name : new String[] {"", ".", "a.", ".a", "a..b", "A", "a b", "a ", " a", "a+b", "a\n", PART + "x",
                LONGEST + "x", LONGEST.substring(1) + ".x", "\u00e4", "a@b", "a/b"}) {
                Gate.due("sort " + sort + " of " + name, new Gate().tape(name).gate.entry(sort, 0), -1);
            }
        }
    }

    private static void values() {
        Gate gate = new Gate();
        Gate.due("a TEXT without a blank", gate.tape("a.com").gate.entry(0, 0), -1);
        Gate.due("a TEXT of nothing", gate.tape("a.com ").gate.entry(0, 0), 1);
        Gate.due("a TEXT of 700", gate.text("a.com", "\u00ff".repeat(700)), 2);
        Gate.due("a TEXT of 701", gate.text("a.com", "x".repeat(701)), -1);
        Gate.due("a TEXT with a blank first", gate.text("a.com", " v=spf1 all"), 3);
        Gate.due("a TEXT of no NAME", gate.text("A.com", "v=spf1 all"), -1);
        Gate.due("a TEXT of an empty NAME", gate.text("", "v=spf1 all"), -1);
        Gate.due("an EXCHANGE without a blank", gate.tape("a.com").gate.entry(2, 0), -1);
        Gate.due("an EXCHANGE of nothing", gate.tape("a.com ").gate.entry(2, 0), -1);
        Gate.due("an EXCHANGE with two blanks", gate.exchange("a.com", " b.com"), -1);
        Gate.due("an EXCHANGE that is no NAME", gate.exchange("a.com", "b..com"), -1);
        Gate.due("an EXCHANGE of 60", gate.exchange(LONGEST, LONGEST), 4);
        gate.sender("x@a.com", 1);
        Gate.due("a TEXT begins where it begins", gate.gate.permission(), 0);
    }

    private static void full() {
        Gate gate = new Gate();
        for (int i = 1; i <= 40; i++) {
            Gate.due("entry " + i, gate.address("a.com", i), i);
        }
        Gate.due("entry 41", gate.address("a.com", 41), -3);
        Gate.due("a wrong sort with 40", gate.tape("a.com").gate.entry(9, 0), -3);
        Gate.due("no NAME with 40", gate.tape("..").gate.entry(1, 0), -3);
        Gate.due("forget()", gate.gate.forget(), 40);
        Gate.due("an entry then", gate.address("a.com", 1), 1);
    }

    private static void forget() {
        Gate gate = new Gate();
        gate.text("a.com", "v=spf1 +all");
        gate.suffix("com");
        gate.sender("x@a.com", 1);
        Gate.due("before", gate.gate.permission(), 2);
        Gate.due("forget()", gate.gate.forget(), 2);
        Gate.due("forget() again", gate.gate.forget(), 0);
        Gate.due("the SENDER stays, its TEXT is gone", gate.gate.permission(), 0);
        gate.trouble("b.com");
        gate.text("a.com", "");
        Gate.due("nothing is left of the value before", gate.gate.permission(), 0);
        gate.gate.forget();
        gate.address("q", 1);
        Gate.due("no SUFFIX is left", gate.house("a.b.com"), "b.com");
    }

    private static void houseWithoutSuffix() {
        Gate gate = new Gate();
        Gate.due("one part", gate.house("com"), "com");
        Gate.due("two parts", gate.house("a.com"), "a.com");
        Gate.due("three parts", gate.house("x.a.com"), "a.com");
        Gate.due("five parts", gate.house("v.w.x.a.com"), "a.com");
        Gate.due("the longest", gate.house(LONGEST), LONGEST.substring(21));
        Gate.due("how many", gate.tape("x.a.com").gate.house(), 5);
    }

    private static void houseWithSuffixes() {
        Gate gate = new Gate();
        gate.suffix("uk");
        gate.suffix("co.uk");
        gate.suffix("parliament.co.uk");
        gate.suffix("o.uk");
        Gate.due("under the longest", gate.house("a.b.parliament.co.uk"), "b.parliament.co.uk");
        Gate.due("the SUFFIX itself", gate.house("parliament.co.uk"), "parliament.co.uk");
        Gate.due("under the middle one", gate.house("a.b.co.uk"), "b.co.uk");
        Gate.due("the middle one itself", gate.house("co.uk"), "co.uk");
        Gate.due("under the shortest", gate.house("a.b.ac.uk"), "ac.uk");
        Gate.due("the shortest itself", gate.house("uk"), "uk");
        Gate.due("ends alike, but no part", gate.house("a.b.xparliament.co.uk"), "xparliament.co.uk");
        Gate.due("under none", gate.house("a.b.com"), "b.com");
        Gate.due("an ADDRESS is no SUFFIX", gate.address("b.com", 1), 5);
        Gate.due("under none still", gate.house("a.b.com"), "b.com");
        gate.suffix("x.a.b.net");
        Gate.due("above a SUFFIX", gate.house("a.b.net"), "b.net");
        Gate.due("one part more", gate.house("y.x.a.b.net"), "y.x.a.b.net");
    }

    private static void houseOfTheOnlySuffix() {
        Gate gate = new Gate();
        gate.suffix("a.b.com");
        Gate.due("it is its own", gate.house("a.b.com"), "a.b.com");
        Gate.due("one part more", gate.house("x.a.b.com"), "x.a.b.com");
        Gate.due("two parts more", gate.house("y.x.a.b.com"), "x.a.b.com");
        gate.suffix("b.cox");
        Gate.due("one byte beside it", gate.house("z.a.b.com"), "z.a.b.com");
        Gate.due("one byte beside the other", gate.house("a.b.coy"), "b.coy");
        Gate.due("beside it", gate.house("xa.b.com"), "b.com");
    }

    private static void wrongHouses() {
        Gate gate = new Gate();
        for (String name : new String[] {"", ".", "a..b", "A.com", "a.com ", LONGEST + "x", PART + "x"}) {
            Gate.due("house of " + name, gate.tape(name).gate.house(), -1);
        }
    }
}
