import java.nio.charset.StandardCharsets;

/** The boundary cases of promises 1 (a new object), 2 (feed), 3 (end), 16 (digest) and 17 (octet). */
public final class TapeEdgesTest {
    private static final int MIN = Integer.MIN_VALUE;
    private static final int MAX = Integer.MAX_VALUE;

    public static void main(String[] args) {
        newTape();
        newOut();
        newObject();
        lastOf512Calls();
        highestByteFirst();
        howManyFeedHas();
        fullAbove3000();
        fullTakesNothing();
        endIsN();
        endOfLess();
        endBelowZero();
        endCutsToTheFirst();
        readersEmptyTheTape();
        digestOfTheTape();
        digestIs32();
        byteK();
        howManyForMinusOne();
        noSuchByte();
        Gate.finish("TapeEdgesTest");
    }

    private static String sumOf(String text) {
        return new String(Model.sum(text), StandardCharsets.ISO_8859_1);
    }

    /** The TAPE is told by its DIGEST, which empties it. */
    private static void dueTape(String what, PostGate gate, String text) {
        gate.digest();
        StringBuilder got = new StringBuilder();
        for (int i = 0; i < 32; i++) {
            got.append((char) gate.octet(i));
        }
        Gate.due(what + ": the TAPE is as it should be", got.toString().equals(sumOf(text)) ? 1 : 0, 1);
    }

    private static void newTape() {
        Gate.sentence("THE TAPE has bytes, none at first");
        Gate.due("end(1) of a new one", new PostGate().end(1), -1);
        Gate.due("end(0) of a new one", new PostGate().end(0), 0);
        Gate.due("the first feed", new PostGate().feed(1, 2, 3, 4, 5), 20);
        dueTape("a new one", new PostGate(), "");
    }

    private static void newOut() {
        Gate.sentence("OUT has bytes, none at first");
        Gate.due("octet(-1) of a new one", new PostGate().octet(-1), 0);
        Gate.due("octet(0) of a new one", new PostGate().octet(0), -2);
        PostGate gate = new PostGate();
        gate.digest();
        Gate.due("octet(-1) then", gate.octet(-1), 32);
        Gate.due("octet(0) then", gate.octet(0), 0xe3);
    }

    private static void newObject() {
        Gate.sentence("PostGate(): Nothing is known");
        PostGate gate = new PostGate();
        Gate.due("no entries", gate.forget(), 0);
        Gate.due("no SENDER", gate.permission(), -1);
        Gate.due("no SENDER for a WISH", gate.wish(0), -1);
        Gate.due("nothing COUNTED", gate.cost(0), 0);
        Gate.due("nothing VOID", gate.cost(1), 0);
        Gate.due("no SEALS", gate.seals(), 0);
        Gate.due("no SEAL 0", gate.sealed(0, 0), -2);
        Gate.due("no BODY", gate.plainBody(false), -2);
        Gate.due("no BODY, relaxed", gate.plainBody(true), -2);
        Gate.due("no FIELD 0", gate.plainField(0, false), -2);
        Gate.due("no NAME on the TAPE", gate.house(), -1);
        Gate.due("no MESSAGE on the TAPE", gate.message(), -1);
        Gate.due("no SENDER on the TAPE", gate.sender(0), -1);
        for (int sort = 0; sort <= 4; sort++) {
            Gate.due("no entry of sort " + sort + " on the TAPE", gate.entry(sort, 0), -1);
        }
    }

    private static void lastOf512Calls() {
        Gate.sentence("An object is used for at most 512 calls");
        PostGate gate = new PostGate();
        for (int i = 1; i <= 509; i++) {
            gate.feed(i, i, i, i, i);
        }
        Gate.due("call 510", gate.end(3000), 3000);
        Gate.due("call 511", gate.digest(), 32);
        Gate.due("call 512", gate.octet(-1), 32);
    }

    private static void highestByteFirst() {
        Gate.sentence("feed: Twenty bytes, five times four, the highest of each first");
        PostGate gate = new PostGate();
        gate.feed(0x01020304, 0x05060708, 0x090a0b0c, 0x0d0e0f10, 0x11121314);
        dueTape("1 to 20", gate, "\1\2\3\4\5\6\7\10\11\12\13\14\15\16\17\20\21\22\23\24");
        gate.feed(MIN, MAX, -1, 0, 1);
        dueTape("the ends of int", gate, "\u0080\0\0\0\u007f\u00ff\u00ff\u00ff\u00ff\u00ff\u00ff\u00ff\0\0\0\0\0\0\0\1");
    }

    private static void howManyFeedHas() {
        Gate.sentence("feed: how many it has");
        PostGate gate = new PostGate();
        Gate.due("from 0", gate.feed(0, 0, 0, 0, 0), 20);
        gate.end(1);
        Gate.due("from 1", gate.feed(0, 0, 0, 0, 0), 21);
        gate.end(0);
        Gate.due("from 0 again", gate.feed(0, 0, 0, 0, 0), 20);
    }

    /** A gate whose TAPE has so many bytes, all of them 7. */
    private static PostGate fed(int size) {
        PostGate gate = new PostGate();
        for (int i = 0; i < (size + 19) / 20; i++) {
            gate.feed(0x07070707, 0x07070707, 0x07070707, 0x07070707, 0x07070707);
        }
        gate.end(size);
        return gate;
    }

    private static void fullAbove3000() {
        Gate.sentence("feed: FULL if it would have more than 3000");
        for (int size = 2979; size <= 3000; size++) {
            Gate.due("feed with " + size, fed(size).feed(0, 0, 0, 0, 0), size <= 2980 ? size + 20 : -3);
        }
    }

    private static void fullTakesNothing() {
        Gate.sentence("THE TAPE has at most 3000");
        for (int size : new int[] {2981, 2999, 3000}) {
            PostGate gate = fed(size);
            gate.feed(1, 2, 3, 4, 5);
            gate.feed(1, 2, 3, 4, 5);
            Gate.due("end(" + (size + 1) + ") after FULL", gate.end(size + 1), -1);
            Gate.due("end(" + size + ") after FULL", gate.end(size), size);
            dueTape("after FULL with " + size, gate, "\7".repeat(size));
            Gate.due("feed when it is empty again", gate.feed(0, 0, 0, 0, 0), 20);
        }
        PostGate gate = fed(2980);
        gate.feed(0x01020304, 0x05060708, 0x090a0b0c, 0x0d0e0f10, 0x11121314);
        dueTape("3000", gate, "\7".repeat(2980) + "\1\2\3\4\5\6\7\10\11\12\13\14\15\16\17\20\21\22\23\24");
    }

    private static void endIsN() {
        Gate.sentence("end: n");
        for (int n : new int[] {3000, 2999, 1, 0}) {
            Gate.due("end(" + n + ") of 3000", fed(3000).end(n), n);
        }
        Gate.due("end(0) of 0", fed(0).end(0), 0);
    }

    private static void endOfLess() {
        Gate.sentence("end: REFUSED if it has less");
        for (int size : new int[] {0, 1, 19, 20, 21, 2999, 3000}) {
            Gate.due("end(" + (size + 1) + ") of " + size, fed(size).end(size + 1), -1);
            Gate.due("end(" + size + ") of " + size, fed(size).end(size), size);
            Gate.due("end(MAX) of " + size, fed(size).end(MAX), -1);
        }
        PostGate gate = fed(40);
        gate.end(41);
        dueTape("it stays", gate, "\7".repeat(40));
    }

    private static void endBelowZero() {
        Gate.sentence("end: REFUSED if n is below 0");
        for (int size : new int[] {0, 20}) {
            Gate.due("end(-1) of " + size, fed(size).end(-1), -1);
            Gate.due("end(MIN) of " + size, fed(size).end(MIN), -1);
            Gate.due("end(0) of " + size, fed(size).end(0), 0);
        }
        PostGate gate = fed(20);
        gate.end(-1);
        dueTape("it stays", gate, "\7".repeat(20));
    }

    private static void endCutsToTheFirst() {
        Gate.sentence("end: The TAPE is cut to its first n bytes");
        PostGate gate = new PostGate();
        gate.feed(0x61626364, 0x65666768, 0x696a6b6c, 0x6d6e6f70, 0x71727374);
        gate.end(3);
        Gate.due("end(4) of what was cut", gate.end(4), -1);
        gate.feed(0x41424344, 0x45464748, 0x494a4b4c, 0x4d4e4f50, 0x51525354);
        dueTape("what comes behind", gate, "abcABCDEFGHIJKLMNOPQRST");
        gate = fed(20);
        gate.end(0);
        dueTape("cut to nothing", gate, "");
    }

    private static int read(PostGate gate, int call) {
        switch (call) {
            case 0:
                return gate.entry(1, 0);
            case 1:
                return gate.entry(5, 0);
            case 2:
                return gate.sender(0);
            case 3:
                return gate.message();
            case 4:
                return gate.house();
            default:
                return gate.digest();
        }
    }

    private static void readersEmptyTheTape() {
        Gate.sentence("THE TAPE: calls that read it empty it");
        String[] right = {"a.com", "a.com", "x@a.com", "From: x", "a.com", "?"};
        int[] answers = {1, -1, 0, 1, 5, 32};
        for (int call = 0; call < right.length; call++) {
            Gate gate = new Gate();
            gate.tape(right[call]);
            Gate.due("call " + call, read(gate.gate, call), answers[call]);
            Gate.due("end(1) after call " + call, gate.gate.end(1), -1);
            gate.tape("?");
            Gate.due("call " + call + " that refuses", read(gate.gate, call), call == 5 ? 32 : -1);
            Gate.due("end(1) after call " + call + " that refused", gate.gate.end(1), -1);
        }
    }

    private static void digestOfTheTape() {
        Gate.sentence("digest: OUT becomes the DIGEST of the TAPE");
        for (int size : new int[] {0, 1, 54, 55, 56, 57, 63, 64, 65, 118, 119, 120, 121, 127, 128, 129, 2999, 3000}) {
            dueTape("of " + size, fed(size), "\7".repeat(size));
        }
        Gate gate = new Gate();
        StringBuilder all = new StringBuilder();
        for (char c = 0; c < 256; c++) {
            all.append(c);
        }
        dueTape("of each byte", gate.tape(all.toString()).gate, all.toString());
    }

    private static void digestIs32() {
        Gate.sentence("digest: 32");
        for (int size : new int[] {0, 1, 32, 33, 3000}) {
            PostGate gate = fed(size);
            Gate.due("of " + size, gate.digest(), 32);
            Gate.due("octet(-1) then", gate.octet(-1), 32);
        }
    }

    private static void byteK() {
        Gate.sentence("octet: Byte k of OUT");
        Gate gate = new Gate();
        StringBuilder all = new StringBuilder("a:");
        for (char c = 0; c < 256; c++) {
            all.append(c == 10 ? '\t' : c);
        }
        gate.message(all.toString());
        gate.gate.plainField(0, false);
        for (int k = 0; k < 258; k++) {
            Gate.due("octet(" + k + ")", gate.gate.octet(k), all.charAt(k));
        }
        gate.message("a:\n\n" + "y".repeat(2996));
        gate.gate.plainBody(false);
        Gate.due("octet(2995) of 2997", gate.gate.octet(2995), 'y');
        Gate.due("octet(2996) of 2997", gate.gate.octet(2996), 10);
        gate.message("a:" + "y".repeat(2997) + "z");
        gate.gate.plainField(0, true);
        Gate.due("octet(2999) of 3000", gate.gate.octet(2999), 'z');
        Gate.due("octet(3000) of 3000", gate.gate.octet(3000), -2);
    }

    private static void howManyForMinusOne() {
        Gate.sentence("octet: for k -1 how many");
        Gate gate = new Gate();
        gate.house("b");
        Gate.due("of 1", gate.gate.octet(-1), 1);
        gate.message("a:" + "y".repeat(2998));
        gate.gate.plainField(0, false);
        Gate.due("of 3000", gate.gate.octet(-1), 3000);
        gate.gate.plainBody(true);
        Gate.due("of 0", gate.gate.octet(-1), 0);
    }

    private static void noSuchByte() {
        Gate.sentence("octet: NONE if there is none");
        Gate gate = new Gate();
        gate.gate.digest();
        for (int k : new int[] {32, 33, 3000, 3001, MAX, -2, -3, MIN}) {
            Gate.due("octet(" + k + ") of 32", gate.gate.octet(k), -2);
        }
        Gate.due("octet(31) of 32", gate.gate.octet(31), 0x55);
        gate.house("b");
        Gate.due("octet(0) of 1", gate.gate.octet(0), 'b');
        Gate.due("octet(1) of 1, where a byte was before", gate.gate.octet(1), -2);
        gate.message("a:");
        gate.gate.plainBody(true);
        Gate.due("octet(0) of 0", gate.gate.octet(0), -2);
    }
}
