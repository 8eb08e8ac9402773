/** The sentences of THE DIRECTORY. */
final class DirectorySentences {
    private DirectorySentences() {
    }

    static void ask() {
        entries();
        texts();
        addresses();
        exchanges();
        trouble();
        suffixes();
    }

    private static Gate from(String record, int address) {
        Gate gate = new Gate();
        gate.text("a.com", record);
        gate.sender("x@a.com", address);
        return gate;
    }

    private static void entries() {
        Document.says("THE DIRECTORY: at most 40 entries, none at first, in the order in which they came:");
        Gate gate = new Gate();
        Gate.due("none at first", gate.gate.forget(), 0);
        for (int i = 1; i <= 40; i++) {
            Gate.due("entry " + i, gate.address("n" + i, i), i);
        }
        Gate.due("a 41st", gate.address("n41", 41), -3);
        Gate.due("it did not come", gate.gate.forget(), 40);
        gate = from("v=spf1 mx -all", 7);
        gate.exchange("a.com", "good.com");
        gate.exchange("a.com", "bad.com");
        gate.address("good.com", 7);
        gate.trouble("bad.com");
        Gate.due("the exchange that matches first", gate.gate.permission(), 2);
        gate = from("v=spf1 mx -all", 7);
        gate.exchange("a.com", "bad.com");
        gate.exchange("a.com", "good.com");
        gate.address("good.com", 7);
        gate.trouble("bad.com");
        Gate.due("the exchange with TROUBLE first", gate.gate.permission(), 5);
        Gate.due("the key first", Letter.answer(Letter.sealed(""), Letter.KEY, "x"), 2);
        Gate.due("the key behind", Letter.answer(Letter.sealed(""), "x", Letter.KEY), 6);
        firstAndLast();
    }

    /** What is asked for is the first entry of all, or the fortieth. */
    private static void firstAndLast() {
        for (int before : new int[] {0, 37}) {
            Gate gate = new Gate();
            fill(gate, before);
            gate.address("a.com", 7);
            gate.exchange("b.com", "a.com");
            gate.text("c.com", "v=spf1 a:a.com/32 -all");
            Gate.due("how many", gate.text("d.com", "v=spf1 mx:b.com -all"), before == 37 ? -3 : 4);
            gate.sender("x@c.com", 7);
            Gate.due("an ADDRESS behind " + before, gate.gate.permission(), 2);
            gate = new Gate();
            fill(gate, before);
            gate.exchange("b.com", "a.com");
            gate.address("a.com", 7);
            gate.text("c.com", "v=spf1 mx:b.com -all");
            gate.sender("x@c.com", 7);
            Gate.due("an EXCHANGE behind " + before, gate.gate.permission(), 2);
            gate = new Gate();
            fill(gate, before);
            gate.trouble("a.com");
            gate.suffix("c.b");
            gate.text("c.com", "v=spf1 a:a.com -all");
            gate.sender("x@c.com", 7);
            Gate.due("TROUBLE behind " + before, gate.gate.permission(), 5);
            Gate.due("a SUFFIX behind " + before, gate.house("e.d.c.b"), "d.c.b");
        }
    }

    private static void fill(Gate gate, int count) {
        for (int i = 0; i < count; i++) {
            gate.address("n" + i, i);
        }
    }

    private static void texts() {
        Document.says("TEXTS of a NAME (a value of at most 700 bytes),");
        Gate gate = new Gate();
        String filling = "v=spf1 x=" + "y".repeat(686);
        Gate.due("a value of 700", gate.text("a.com", filling + " -all"), 1);
        Gate.due("a value of 701", gate.text("a.com", filling + "y -all"), -1);
        gate.sender("x@a.com", 1);
        Gate.due("its last byte is there", gate.gate.permission(), 3);
        gate.sender("x@b.com", 1);
        Gate.due("it is no other NAME's", gate.gate.permission(), 0);
        Gate.due("an empty value", gate.text("a.com", ""), 2);
        Gate.due("a value with a blank first", gate.text("b.com", " v=spf1"), 3);
        Gate.due("its blank counts", gate.gate.permission(), 0);
    }

    private static void addresses() {
        Document.says("ADDRESSES (an int),");
        for (int address : new int[] {0, 1, -1, Integer.MIN_VALUE, Integer.MAX_VALUE, 0xC0000201}) {
            Gate gate = from("v=spf1 a -all", address);
            gate.address("a.com", address);
            Gate.due("the address " + address, gate.gate.permission(), 2);
            gate.sender("x@a.com", address ^ 1);
            Gate.due("another than " + address, gate.gate.permission(), 3);
            gate.sender("x@a.com", address ^ Integer.MIN_VALUE);
            Gate.due("another still than " + address, gate.gate.permission(), 3);
        }
        Gate gate = from("v=spf1 a -all", 3);
        gate.address("a.com", 1);
        gate.address("a.com", 2);
        gate.address("a.com", 3);
        Gate.due("the last of three", gate.gate.permission(), 2);
    }

    private static void exchanges() {
        Document.says("EXCHANGES (a NAME),");
        Gate gate = from("v=spf1 mx -all", 7);
        Gate.due("to a NAME", gate.exchange("a.com", "m.com"), 2);
        Gate.due("to none", gate.exchange("a.com", "M.com"), -1);
        Gate.due("to nothing", gate.exchange("a.com", ""), -1);
        Gate.due("to two", gate.exchange("a.com", "m.com n.com"), -1);
        Gate.due("without an ADDRESS", gate.gate.permission(), 3);
        gate.address("m.com", 7);
        Gate.due("with one", gate.gate.permission(), 2);
    }

    /** What the record gives where bad.com has all there is, and TROUBLE, too. */
    private static int withTrouble(String record) {
        Gate gate = from(record, 7);
        gate.address("bad.com", 7);
        gate.exchange("bad.com", "good.com");
        gate.text("bad.com", "v=spf1 all");
        gate.exchange("mail.com", "bad.com");
        gate.address("good.com", 7);
        gate.trouble("bad.com");
        return gate.gate.permission();
    }

    private static void trouble() {
        Document.says("TROUBLE (of a NAME: who looks for it, whatever for, gets TROUBLE),");
        for (String term : new String[] {"a:bad.com", "mx:bad.com", "exists:bad.com", "include:bad.com", "mx:mail.com",
            "redirect=bad.com"}) {
            Gate.due(term, withTrouble("v=spf1 " + term), 5);
        }
        Gate.due("nobody looks for it", withTrouble("v=spf1 all a:bad.com"), 2);
        Gate.due("a NAME UNDER it", withTrouble("v=spf1 a:x.bad.com -all"), 3);
        Gate gate = from("v=spf1 all", 7);
        gate.trouble("a.com");
        Gate.due("the SENDER's DOMAIN", gate.gate.permission(), 5);
        gate = new Gate();
        gate.text(Letter.KEY_NAME, Letter.KEY);
        gate.text("_dmarc.a.com", "v=DMARC1; p=reject");
        gate.sender("x@b.com", 7);
        gate.message(Letter.sealed("").replace("hello", "hallo"));
        gate.trouble("a.com");
        Gate.due("a.com is not looked for", gate.gate.sealed(0, 5), 3);
        Gate.due("nor for the WISH", gate.gate.wish(5), 9);
        gate.trouble(Letter.KEY_NAME);
        Gate.due("the key", gate.gate.sealed(0, 5), 5);
        gate.trouble("_dmarc.a.com");
        Gate.due("the WISH", gate.gate.wish(5), 5);
        Gate.due("a HOUSE is not looked for", gate.house("x.a.com"), "a.com");
    }

    private static void suffixes() {
        Document.says("SUFFIXES (NAMES under which anybody may have one).");
        Gate gate = new Gate();
        Gate.due("before it came", gate.house("y.x.co.uk"), "co.uk");
        Gate.due("a SUFFIX", gate.suffix("co.uk"), 1);
        Gate.due("after it came", gate.house("y.x.co.uk"), "x.co.uk");
        Gate.due("no NAME", gate.suffix("co..uk"), -1);
        gate.gate.forget();
        Gate.due("after it went", gate.house("y.x.co.uk"), "co.uk");
    }
}
