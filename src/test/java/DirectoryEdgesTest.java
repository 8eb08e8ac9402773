/** The boundary cases of promises 4 (entry), 5 (forget) and 14 (house), and of NAMES and UNDER in them. */
public final class DirectoryEdgesTest {
    private static final int MIN = Integer.MIN_VALUE;
    private static final int MAX = Integer.MAX_VALUE;
    private static final int TEXT = 0, ADDRESS = 1, EXCHANGE = 2, TROUBLE = 3, SUFFIX = 4;

    public static void main(String[] args) {
        sortsZeroToFour();
        names();
        signsOfNames();
        textNeedsItsBlank();
        valueOf700();
        exchangeIsTwoNames();
        anyAddress();
        fullWithForty();
        fullIsFirst();
        refusedIsNoEntry();
        inTheirOrder();
        forgetAll();
        houseOfNames();
        houseWithoutSuffix();
        houseAboveTheLongestSuffix();
        houseOfASuffix();
        under();
        refusedHouse();
        Gate.finish("DirectoryEdgesTest");
    }

    private static int entry(int sort, String tape) {
        return new Gate().tape(tape).gate.entry(sort, 0);
    }

    /** What stands behind the first NAME of an entry of the sort. */
    private static String behind(int sort) {
        return sort == TEXT ? " v" : sort == EXCHANGE ? " b.com" : "";
    }

    private static void sortsZeroToFour() {
        Gate.sentence("entry: sort 0 to 4, REFUSED for others");
        for (int sort = 0; sort <= 4; sort++) {
            Gate.due("sort " + sort, entry(sort, "a.com" + behind(sort)), 1);
        }
        for (int sort : new int[] {-1, 5, -2, 6, MIN, MAX, 256, -256}) {
            for (String tape : new String[] {"a.com", "a.com b.com", ""}) {
                Gate.due("sort " + sort + " with " + tape, entry(sort, tape), -1);
            }
        }
    }

    private static void names() {
        Gate.sentence("NAMES: 1 to 60 bytes, parts of 1 to 20, with . between");
        for (int sort = 0; sort <= 4; sort++) {
            for (String name : Names.RIGHT) {
                Gate.due("sort " + sort + " of " + name, entry(sort, name + behind(sort)), 1);
            }
            for (String name : Names.WRONG) {
                Gate.due("sort " + sort + " of " + name, entry(sort, name + behind(sort)), -1);
            }
        }
        for (int length = 1; length <= 62; length++) {
            Gate.due("length " + length, entry(ADDRESS, Names.ofLength(length)), length <= 60 ? 1 : -1);
        }
        for (int length = 1; length <= 22; length++) {
            String part = "b".repeat(length);
            Gate.due("a part of " + length, entry(SUFFIX, part), length <= 20 ? 1 : -1);
            Gate.due("a last part of " + length, entry(SUFFIX, "a." + part), length <= 20 ? 1 : -1);
            Gate.due("a middle part of " + length, entry(SUFFIX, "a." + part + ".c"), length <= 20 ? 1 : -1);
        }
    }

    private static void signsOfNames() {
        Gate.sentence("NAMES: small letters, digits, - and _");
        for (int c = 0; c < 256; c++) {
            int want = Names.mayStand(c) ? 1 : -1;
            for (int sort = 0; sort <= 4; sort++) {
                // A blank ends the NAME of a TEXT, and what is behind is its value.
                if (sort != TEXT || c != 32) {
                    Gate.due("sort " + sort + " with byte " + c, entry(sort, "a" + (char) c + "b" + behind(sort)), want);
                }
            }
        }
    }

    private static void textNeedsItsBlank() {
        Gate.sentence("entry: TEXT (the TAPE is a NAME, a blank, the value)");
        Gate.due("no blank", entry(TEXT, "a.com"), -1);
        Gate.due("a blank and nothing", entry(TEXT, "a.com "), 1);
        Gate.due("a blank alone", entry(TEXT, " "), -1);
        Gate.due("no NAME", entry(TEXT, " v"), -1);
        Gate.due("nothing", entry(TEXT, ""), -1);
        Gate.due("a tab", entry(TEXT, "a.com\tv"), -1);
        Gate.due("a value of any bytes", entry(TEXT, "a.com \0\u00ff\n\t "), 1);
        Gate.due("a NAME of 60 and 700 bytes", entry(TEXT, Names.LONGEST + " " + "x".repeat(700)), 1);
    }

    private static void valueOf700() {
        Gate.sentence("TEXTS of a NAME (a value of at most 700 bytes)");
        for (int size : new int[] {0, 1, 699, 700}) {
            Gate.due("a value of " + size, entry(TEXT, "a " + "x".repeat(size)), 1);
        }
        for (int size : new int[] {701, 702, 1400, 2998}) {
            Gate.due("a value of " + size, entry(TEXT, "a " + "x".repeat(size)), -1);
        }
        Gate gate = new Gate();
        gate.text("a.com", "v=spf1" + " ".repeat(690) + "-all");
        gate.sender("x@a.com", 0);
        Gate.due("what ends with byte 700 is read", gate.gate.permission(), 3);
    }

    private static void exchangeIsTwoNames() {
        Gate.sentence("entry: EXCHANGE (a NAME, a blank, a NAME)");
        for (String name : Names.RIGHT) {
            Gate.due("to " + name, entry(EXCHANGE, "a.com " + name), 1);
        }
        for (String name : Names.WRONG) {
            Gate.due("to " + name, entry(EXCHANGE, "a.com " + name), -1);
        }
        for (int c = 0; c < 256; c++) {
            Gate.due("to a NAME with byte " + c, entry(EXCHANGE, "a.com a" + (char) c + "b"), Names.mayStand(c) ? 1 : -1);
        }
        Gate.due("two of 60", entry(EXCHANGE, Names.LONGEST + " " + Names.LONGEST), 1);
        Gate.due("no blank", entry(EXCHANGE, "a.com"), -1);
        Gate.due("two blanks", entry(EXCHANGE, "a.com  b.com"), -1);
        Gate.due("a blank behind", entry(EXCHANGE, "a.com b.com "), -1);
        Gate.due("a blank before", entry(EXCHANGE, " a.com b.com"), -1);
        Gate.due("three", entry(EXCHANGE, "a.com b.com c.com"), -1);
    }

    private static void anyAddress() {
        Gate.sentence("entry: ADDRESS (a NAME; the int)");
        for (int address : new int[] {0, 1, -1, MIN, MAX}) {
            Gate gate = new Gate();
            Gate.due("address " + address, gate.address("a.com", address), 1);
            gate.text("a.com", "v=spf1 a -all");
            gate.sender("x@a.com", address);
            Gate.due("it is " + address, gate.gate.permission(), 2);
            gate.sender("x@a.com", address ^ 1);
            Gate.due("and no other", gate.gate.permission(), 3);
        }
    }

    private static Gate filled(int count) {
        Gate gate = new Gate();
        for (int i = 1; i <= count; i++) {
            Gate.due("entry " + i, gate.address("a.com", i), i);
        }
        return gate;
    }

    private static void fullWithForty() {
        Gate.sentence("THE DIRECTORY: at most 40 entries; entry: how many there are, FULL with 40");
        for (int sort = 0; sort <= 4; sort++) {
            Gate gate = filled(39);
            Gate.due("sort " + sort + " with 39", gate.tape("b.com" + behind(sort)).gate.entry(sort, 0), 40);
            Gate.due("sort " + sort + " with 40", gate.tape("b.com" + behind(sort)).gate.entry(sort, 0), -3);
            Gate.due("and once more", gate.tape("b.com" + behind(sort)).gate.entry(sort, 0), -3);
            Gate.due("there are 40", gate.gate.forget(), 40);
        }
        Gate gate = filled(38);
        gate.text("a.com", "v=spf1 a -all");
        Gate.due("entry 40", gate.address("a.com", 77), 40);
        Gate.due("entry 41", gate.address("a.com", 78), -3);
        gate.sender("x@a.com", 77);
        Gate.due("entry 40 is there", gate.gate.permission(), 2);
        gate.sender("x@a.com", 78);
        Gate.due("entry 41 is not", gate.gate.permission(), 3);
        gate = filled(39);
        Gate.due("a TEXT as entry 40", gate.text("a.com", "v=spf1 mx:b.com -all"), 40);
        gate.sender("x@a.com", 39);
        Gate.due("it is there", gate.gate.permission(), 3);
        gate = filled(38);
        gate.text("a.com", "v=spf1 mx:b.com -all");
        Gate.due("an EXCHANGE as entry 40", gate.exchange("b.com", "a.com"), 40);
        gate.sender("x@a.com", 38);
        Gate.due("it is there", gate.gate.permission(), 2);
        gate = filled(39);
        Gate.due("a SUFFIX as entry 40", gate.suffix("b.com"), 40);
        Gate.due("it is there", gate.house("d.c.b.com"), "c.b.com");
        gate = filled(39);
        gate.sender("x@a.com", 1);
        Gate.due("a TROUBLE as entry 40", gate.trouble("a.com"), 40);
        Gate.due("it is there", gate.gate.permission(), 5);
    }

    private static void fullIsFirst() {
        Gate.sentence("entry: REFUSED for others; FULL with 40, first");
        for (int count = 39; count <= 40; count++) {
            int want = count == 40 ? -3 : -1;
            Gate gate = filled(count);
            for (int sort : new int[] {-1, 5, MIN, MAX}) {
                Gate.due("sort " + sort + " with " + count, gate.tape("a.com").gate.entry(sort, 0), want);
            }
            Gate.due("no NAME with " + count, gate.tape("a..com").gate.entry(ADDRESS, 0), want);
            Gate.due("nothing with " + count, gate.gate.entry(SUFFIX, 0), want);
            Gate.due("a value of 701 with " + count, gate.text("a", "x".repeat(701)), want);
            Gate.due("there are " + count, gate.gate.forget(), count);
        }
    }

    private static void refusedIsNoEntry() {
        Gate.sentence("entry: how many there are, REFUSED for others");
        Gate gate = new Gate();
        Gate.due("the first", gate.suffix("com"), 1);
        Gate.due("refused", gate.suffix("com."), -1);
        Gate.due("refused by its value", gate.text("com", "x".repeat(701)), -1);
        Gate.due("refused by its sort", gate.tape("com").gate.entry(5, 0), -1);
        Gate.due("the second", gate.suffix("com"), 2);
        Gate.due("forget()", gate.gate.forget(), 2);
    }

    private static void inTheirOrder() {
        Gate.sentence("THE DIRECTORY: in the order in which they came");
        for (int first = 0; first < 2; first++) {
            Gate gate = new Gate();
            gate.text("a.com", "v=spf1 mx -all");
            gate.exchange("a.com", first == 0 ? "good.com" : "bad.com");
            gate.exchange("a.com", first == 0 ? "bad.com" : "good.com");
            gate.trouble("bad.com");
            gate.address("good.com", 1);
            gate.sender("x@a.com", 1);
            Gate.due(first == 0 ? "the good one first" : "the bad one first", gate.gate.permission(), first == 0 ? 2 : 5);
        }
    }

    private static void forgetAll() {
        Gate.sentence("forget: All entries go: how many there were");
        Gate.due("of none", new PostGate().forget(), 0);
        Gate one = new Gate();
        one.suffix("com");
        Gate.due("of one", one.gate.forget(), 1);
        Gate.due("then", one.gate.forget(), 0);
        Gate gate = filled(40);
        Gate.due("of 40", gate.gate.forget(), 40);
        Gate.due("then none", gate.gate.forget(), 0);
        for (int i = 1; i <= 40; i++) {
            Gate.due("entry " + i + " afterwards", gate.suffix("com"), i);
        }
        Gate.due("entry 41 afterwards", gate.suffix("com"), -3);
        goneAfterForget();
        gate.tape("left");
        gate.gate.forget();
        Gate.due("the TAPE stays", gate.gate.end(4), 4);
    }

    /** What each sort of entry was looked up for before, and is not found again. */
    private static void goneAfterForget() {
        Gate gate = new Gate();
        gate.sender("x@a.com", 7);
        gate.text("a.com", "v=spf1 all");
        Gate.due("a TEXT", gate.gate.permission(), 2);
        gate.gate.forget();
        Gate.due("a TEXT gone", gate.gate.permission(), 0);
        gate.address("b.com", 7);
        gate.text("a.com", "v=spf1 a:b.com -all");
        Gate.due("an ADDRESS", gate.gate.permission(), 2);
        gate.gate.forget();
        gate.text("a.com", "v=spf1 a:b.com -all");
        Gate.due("an ADDRESS gone", gate.gate.permission(), 3);
        gate.gate.forget();
        gate.text("a.com", "v=spf1 mx -all");
        gate.address("m.com", 7);
        gate.exchange("a.com", "n.com");
        gate.exchange("a.com", "m.com");
        Gate.due("an EXCHANGE", gate.gate.permission(), 2);
        gate.gate.forget();
        gate.text("a.com", "v=spf1 mx -all");
        gate.address("m.com", 7);
        gate.exchange("a.com", "n.com");
        Gate.due("an EXCHANGE gone", gate.gate.permission(), 3);
        gate.trouble("a.com");
        Gate.due("a TROUBLE", gate.gate.permission(), 5);
        gate.gate.forget();
        Gate.due("a TROUBLE gone", gate.gate.permission(), 0);
        gate.suffix("b.com");
        Gate.due("a SUFFIX", gate.house("d.c.b.com"), "c.b.com");
        gate.gate.forget();
        Gate.due("a SUFFIX gone", gate.house("d.c.b.com"), "b.com");
    }

    private static void houseOfNames() {
        Gate.sentence("house: how many bytes");
        Gate gate = new Gate();
        gate.suffix("q");
        for (int length = 1; length <= 20; length++) {
            String name = "b".repeat(length);
            Gate.due("of " + length, gate.tape(name).gate.house(), length);
            Gate.due("OUT", gate.out(), name);
        }
        gate.suffix(Names.LONGEST);
        Gate.due("of 60", gate.tape(Names.LONGEST).gate.house(), 60);
        Gate.due("OUT", gate.out(), Names.LONGEST);
    }

    private static void houseWithoutSuffix() {
        Gate.sentence("HOUSE: (without a SUFFIX: its last two parts)");
        Gate gate = new Gate();
        Gate.due("one part", gate.house("a"), "a");
        Gate.due("two parts", gate.house("b.a"), "b.a");
        Gate.due("three parts", gate.house("c.b.a"), "b.a");
        Gate.due("thirty parts", gate.house("c.".repeat(28) + "b.a"), "b.a");
        gate.suffix("x");
        Gate.due("one part under no SUFFIX", gate.house("a"), "a");
        Gate.due("three parts under no SUFFIX", gate.house("c.b.a"), "b.a");
        gate.suffix("a");
        Gate.due("three parts under one", gate.house("d.b.a"), "b.a");
        gate.gate.forget();
        gate.suffix("b.a");
        Gate.due("three parts under one of two", gate.house("c.b.a"), "c.b.a");
        gate.gate.forget();
        Gate.due("three parts, the SUFFIX gone", gate.house("c.b.a"), "b.a");
    }

    private static void houseAboveTheLongestSuffix() {
        Gate.sentence("HOUSE: the shortest part which is UNDER, and not the same as, the longest SUFFIX that it is UNDER");
        for (int turn = 0; turn < 2; turn++) {
            Gate gate = new Gate();
            gate.suffix(turn == 0 ? "a" : "c.b.a");
            gate.suffix("b.a");
            gate.suffix(turn == 0 ? "c.b.a" : "a");
            Gate.due("under the longest", gate.house("e.d.c.b.a"), "d.c.b.a");
            Gate.due("one part over the longest", gate.house("d.c.b.a"), "d.c.b.a");
            Gate.due("beside the longest", gate.house("e.d.b.a"), "d.b.a");
            Gate.due("one part over the second", gate.house("d.b.a"), "d.b.a");
            Gate.due("beside the second", gate.house("e.d.a"), "d.a");
            Gate.due("one part over the shortest", gate.house("d.a"), "d.a");
        }
    }

    private static void houseOfASuffix() {
        Gate.sentence("HOUSE: itself if there is none such");
        Gate gate = new Gate();
        gate.suffix("c.b.a");
        Gate.due("the SUFFIX itself", gate.house("c.b.a"), "c.b.a");
        Gate.due("one part more", gate.house("d.c.b.a"), "d.c.b.a");
        Gate.due("one part less", gate.house("b.a"), "b.a");
        gate.suffix("a");
        Gate.due("the longest SUFFIX counts", gate.house("c.b.a"), "c.b.a");
        Gate.due("a SUFFIX of one part", gate.house("a"), "a");
    }

    private static void under() {
        Gate.sentence("A NAME is UNDER another one if it is it, or ends with . and it");
        Gate gate = new Gate();
        gate.suffix("b.a");
        Gate.due("it is it", gate.house("b.a"), "b.a");
        Gate.due("it ends with . and it", gate.house("d.c.b.a"), "c.b.a");
        Gate.due("it ends with it without .", gate.house("d.cb.a"), "cb.a");
        Gate.due("it ends with - and it", gate.house("d.c-b.a"), "c-b.a");
        Gate.due("it begins with it", gate.house("b.a.c"), "a.c");
        Gate.due("its beginning is other", gate.house("d.e.a"), "e.a");
        Gate.due("its end is other", gate.house("e.d.b.c"), "b.c");
        Gate.due("its end is longer", gate.house("e.d.b.aa"), "b.aa");
        gate.suffix(Names.LONGEST.substring(1));
        Gate.due("one byte longer, without .", gate.house(Names.LONGEST), Names.LONGEST.substring(21));
        gate.suffix(Names.LONGEST.substring(21));
        Gate.due("60 bytes, under its end", gate.house(Names.LONGEST), Names.LONGEST);
        gate.suffix(Names.LONGEST);
        Gate.due("60 bytes, and it is it", gate.house(Names.LONGEST), Names.LONGEST);
    }

    private static void refusedHouse() {
        Gate.sentence("house: REFUSED if it is none");
        Gate gate = new Gate();
        gate.house("b.a");
        for (String name : Names.WRONG) {
            Gate.due("of " + name, gate.tape(name).gate.house(), -1);
        }
        for (String name : Names.RIGHT) {
            Gate.due("of " + name, gate.tape(name).gate.house() > 0 ? 1 : 0, 1);
        }
        for (int c = 0; c < 256; c++) {
            int answer = gate.tape("a" + (char) c + "b").gate.house();
            Gate.due("with byte " + c, answer, Names.mayStand(c) ? 3 : -1);
        }
        gate.house("c.b.a");
        Gate.due("of nothing", gate.gate.house(), -1);
        Gate.due("OUT stays", gate.out(), "b.a");
    }
}
